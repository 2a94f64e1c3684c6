theorem uwk_0 : ∀ k, k < 11 → u_lay RX0 TX0 k ∈ GW := fun k hk => match k, hk with | 0, _ => tw_584 | 1, _ => tw_586 | 2, _ => tw_588 | 3, _ => tw_590 | 4, _ => tw_592 | 5, _ => tw_594 | 6, _ => tw_596 | 7, _ => tw_598 | 8, _ => tw_600 | 9, _ => tw_602 | 10, _ => tw_604 | k + 11, h => absurd h (by omega)
theorem uw_0 : ∀ w ∈ u_ws RX0 TX0 11, w ∈ GW := fun w hw => by
  obtain ⟨k, hk, rfl⟩ := List.mem_map.mp hw
  exact uwk_0 k (List.mem_range.mp hk)
theorem kc_0 : KC 0 RX0 TX0 := ⟨by decide, rfl, uw_0, tyX0_ok, nmX0⟩
theorem dv_0 : ∀ j, j < clN 0 → defaultValue (tyOf 0 j) = if tk (tyOf 0 j) = 0 then .int 0 else if tk (tyOf 0 j) = 1 then .long 0 else .null := by decide +kernel
theorem uwk_1 : ∀ k, k < 16 → u_lay RX1 TX1 k ∈ GW := fun k hk => match k, hk with | 0, _ => tw_294 | 1, _ => tw_296 | 2, _ => tw_298 | 3, _ => tw_300 | 4, _ => tw_302 | 5, _ => tw_304 | 6, _ => tw_306 | 7, _ => tw_308 | 8, _ => tw_310 | 9, _ => tw_312 | 10, _ => tw_314 | 11, _ => tw_316 | 12, _ => tw_318 | 13, _ => tw_320 | 14, _ => tw_322 | 15, _ => tw_324 | k + 16, h => absurd h (by omega)
theorem uw_1 : ∀ w ∈ u_ws RX1 TX1 16, w ∈ GW := fun w hw => by
  obtain ⟨k, hk, rfl⟩ := List.mem_map.mp hw
  exact uwk_1 k (List.mem_range.mp hk)
theorem kc_1 : KC 1 RX1 TX1 := ⟨by decide, rfl, uw_1, tyX1_ok, nmX1⟩
theorem dv_1 : ∀ j, j < clN 1 → defaultValue (tyOf 1 j) = if tk (tyOf 1 j) = 0 then .int 0 else if tk (tyOf 1 j) = 1 then .long 0 else .null := by decide +kernel
theorem uwk_2 : ∀ k, k < 4 → u_lay RX2 TX2 k ∈ GW := fun k hk => match k, hk with | 0, _ => tw_144 | 1, _ => tw_146 | 2, _ => tw_148 | 3, _ => tw_150 | k + 4, h => absurd h (by omega)
theorem uw_2 : ∀ w ∈ u_ws RX2 TX2 4, w ∈ GW := fun w hw => by
  obtain ⟨k, hk, rfl⟩ := List.mem_map.mp hw
  exact uwk_2 k (List.mem_range.mp hk)
theorem kc_2 : KC 2 RX2 TX2 := ⟨by decide, rfl, uw_2, tyX2_ok, nmX2⟩
theorem dv_2 : ∀ j, j < clN 2 → defaultValue (tyOf 2 j) = if tk (tyOf 2 j) = 0 then .int 0 else if tk (tyOf 2 j) = 1 then .long 0 else .null := by decide +kernel
theorem uwk_3 : ∀ k, k < 8 → u_lay RX3 TX3 k ∈ GW := fun k hk => match k, hk with | 0, _ => tw_67 | 1, _ => tw_69 | 2, _ => tw_71 | 3, _ => tw_73 | 4, _ => tw_75 | 5, _ => tw_77 | 6, _ => tw_79 | 7, _ => tw_81 | k + 8, h => absurd h (by omega)
theorem uw_3 : ∀ w ∈ u_ws RX3 TX3 8, w ∈ GW := fun w hw => by
  obtain ⟨k, hk, rfl⟩ := List.mem_map.mp hw
  exact uwk_3 k (List.mem_range.mp hk)
theorem kc_3 : KC 3 RX3 TX3 := ⟨by decide, rfl, uw_3, tyX3_ok, nmX3⟩
theorem dv_3 : ∀ j, j < clN 3 → defaultValue (tyOf 3 j) = if tk (tyOf 3 j) = 0 then .int 0 else if tk (tyOf 3 j) = 1 then .long 0 else .null := by decide +kernel
theorem uwk_4 : ∀ k, k < 10 → u_lay RX4 TX4 k ∈ GW := fun k hk => match k, hk with | 0, _ => tw_345 | 1, _ => tw_347 | 2, _ => tw_349 | 3, _ => tw_351 | 4, _ => tw_353 | 5, _ => tw_355 | 6, _ => tw_357 | 7, _ => tw_359 | 8, _ => tw_361 | 9, _ => tw_363 | k + 10, h => absurd h (by omega)
theorem uw_4 : ∀ w ∈ u_ws RX4 TX4 10, w ∈ GW := fun w hw => by
  obtain ⟨k, hk, rfl⟩ := List.mem_map.mp hw
  exact uwk_4 k (List.mem_range.mp hk)
theorem kc_4 : KC 4 RX4 TX4 := ⟨by decide, rfl, uw_4, tyX4_ok, nmX4⟩
theorem dv_4 : ∀ j, j < clN 4 → defaultValue (tyOf 4 j) = if tk (tyOf 4 j) = 0 then .int 0 else if tk (tyOf 4 j) = 1 then .long 0 else .null := by decide +kernel
theorem uwk_5 : ∀ k, k < 4 → u_lay RX5 TX5 k ∈ GW := fun k hk => match k, hk with | 0, _ => tw_35 | 1, _ => tw_37 | 2, _ => tw_39 | 3, _ => tw_41 | k + 4, h => absurd h (by omega)
theorem uw_5 : ∀ w ∈ u_ws RX5 TX5 4, w ∈ GW := fun w hw => by
  obtain ⟨k, hk, rfl⟩ := List.mem_map.mp hw
  exact uwk_5 k (List.mem_range.mp hk)
theorem kc_5 : KC 5 RX5 TX5 := ⟨by decide, rfl, uw_5, tyX5_ok, nmX5⟩
theorem dv_5 : ∀ j, j < clN 5 → defaultValue (tyOf 5 j) = if tk (tyOf 5 j) = 0 then .int 0 else if tk (tyOf 5 j) = 1 then .long 0 else .null := by decide +kernel
theorem uwk_6 : ∀ k, k < 5 → u_lay RX6 TX6 k ∈ GW := fun k hk => match k, hk with | 0, _ => tw_97 | 1, _ => tw_99 | 2, _ => tw_101 | 3, _ => tw_103 | 4, _ => tw_105 | k + 5, h => absurd h (by omega)
theorem uw_6 : ∀ w ∈ u_ws RX6 TX6 5, w ∈ GW := fun w hw => by
  obtain ⟨k, hk, rfl⟩ := List.mem_map.mp hw
  exact uwk_6 k (List.mem_range.mp hk)
theorem kc_6 : KC 6 RX6 TX6 := ⟨by decide, rfl, uw_6, tyX6_ok, nmX6⟩
theorem dv_6 : ∀ j, j < clN 6 → defaultValue (tyOf 6 j) = if tk (tyOf 6 j) = 0 then .int 0 else if tk (tyOf 6 j) = 1 then .long 0 else .null := by decide +kernel
theorem uwk_7 : ∀ k, k < 5 → u_lay RX7 TX7 k ∈ GW := fun k hk => match k, hk with | 0, _ => tw_120 | 1, _ => tw_122 | 2, _ => tw_124 | 3, _ => tw_126 | 4, _ => tw_128 | k + 5, h => absurd h (by omega)
theorem uw_7 : ∀ w ∈ u_ws RX7 TX7 5, w ∈ GW := fun w hw => by
  obtain ⟨k, hk, rfl⟩ := List.mem_map.mp hw
  exact uwk_7 k (List.mem_range.mp hk)
theorem kc_7 : KC 7 RX7 TX7 := ⟨by decide, rfl, uw_7, tyX7_ok, nmX7⟩
theorem dv_7 : ∀ j, j < clN 7 → defaultValue (tyOf 7 j) = if tk (tyOf 7 j) = 0 then .int 0 else if tk (tyOf 7 j) = 1 then .long 0 else .null := by decide +kernel
theorem uwk_8 : ∀ k, k < 17 → u_lay RX8 TX8 k ∈ GW := fun k hk => match k, hk with | 0, _ => tw_170 | 1, _ => tw_172 | 2, _ => tw_174 | 3, _ => tw_176 | 4, _ => tw_178 | 5, _ => tw_180 | 6, _ => tw_182 | 7, _ => tw_184 | 8, _ => tw_186 | 9, _ => tw_188 | 10, _ => tw_190 | 11, _ => tw_192 | 12, _ => tw_194 | 13, _ => tw_196 | 14, _ => tw_198 | 15, _ => tw_200 | 16, _ => tw_202 | k + 17, h => absurd h (by omega)
theorem uw_8 : ∀ w ∈ u_ws RX8 TX8 17, w ∈ GW := fun w hw => by
  obtain ⟨k, hk, rfl⟩ := List.mem_map.mp hw
  exact uwk_8 k (List.mem_range.mp hk)
theorem kc_8 : KC 8 RX8 TX8 := ⟨by decide, rfl, uw_8, tyX8_ok, nmX8⟩
theorem dv_8 : ∀ j, j < clN 8 → defaultValue (tyOf 8 j) = if tk (tyOf 8 j) = 0 then .int 0 else if tk (tyOf 8 j) = 1 then .long 0 else .null := by decide +kernel
theorem uwk_9 : ∀ k, k < 75 → u_lay RX9 TX9 k ∈ GW := fun k hk => match k, hk with | 0, _ => tw_834 | 1, _ => tw_836 | 2, _ => tw_838 | 3, _ => tw_840 | 4, _ => tw_842 | 5, _ => tw_844 | 6, _ => tw_846 | 7, _ => tw_848 | 8, _ => tw_850 | 9, _ => tw_852 | 10, _ => tw_854 | 11, _ => tw_856 | 12, _ => tw_858 | 13, _ => tw_860 | 14, _ => tw_862 | 15, _ => tw_864 | 16, _ => tw_866 | 17, _ => tw_868 | 18, _ => tw_870 | 19, _ => tw_872 | 20, _ => tw_874 | 21, _ => tw_876 | 22, _ => tw_878 | 23, _ => tw_880 | 24, _ => tw_882 | 25, _ => tw_884 | 26, _ => tw_886 | 27, _ => tw_888 | 28, _ => tw_890 | 29, _ => tw_892 | 30, _ => tw_894 | 31, _ => tw_896 | 32, _ => tw_898 | 33, _ => tw_900 | 34, _ => tw_902 | 35, _ => tw_904 | 36, _ => tw_906 | 37, _ => tw_908 | 38, _ => tw_910 | 39, _ => tw_912 | 40, _ => tw_914 | 41, _ => tw_916 | 42, _ => tw_918 | 43, _ => tw_920 | 44, _ => tw_922 | 45, _ => tw_924 | 46, _ => tw_926 | 47, _ => tw_928 | 48, _ => tw_930 | 49, _ => tw_932 | 50, _ => tw_934 | 51, _ => tw_936 | 52, _ => tw_938 | 53, _ => tw_940 | 54, _ => tw_942 | 55, _ => tw_944 | 56, _ => tw_946 | 57, _ => tw_948 | 58, _ => tw_950 | 59, _ => tw_952 | 60, _ => tw_954 | 61, _ => tw_956 | 62, _ => tw_958 | 63, _ => tw_960 | 64, _ => tw_962 | 65, _ => tw_964 | 66, _ => tw_966 | 67, _ => tw_968 | 68, _ => tw_970 | 69, _ => tw_972 | 70, _ => tw_974 | 71, _ => tw_976 | 72, _ => tw_978 | 73, _ => tw_980 | 74, _ => tw_982 | k + 75, h => absurd h (by omega)
theorem uw_9 : ∀ w ∈ u_ws RX9 TX9 75, w ∈ GW := fun w hw => by
  obtain ⟨k, hk, rfl⟩ := List.mem_map.mp hw
  exact uwk_9 k (List.mem_range.mp hk)
theorem kc_9 : KC 9 RX9 TX9 := ⟨by decide, rfl, uw_9, tyX9_ok, nmX9⟩
theorem dv_9 : ∀ j, j < clN 9 → defaultValue (tyOf 9 j) = if tk (tyOf 9 j) = 0 then .int 0 else if tk (tyOf 9 j) = 1 then .long 0 else .null := by decide +kernel
theorem fl_X8_9 : FL "BloodPrice" 9 8 0 true := ⟨RX8, TX8, kc_8, by decide, rfl, rfl, tw_153⟩
theorem fl_X8_16 : FL "BloodPrice" 16 8 2 true := ⟨RX8, TX8, kc_8, by decide, rfl, rfl, tw_155⟩
theorem fl_X8_22 : FL "BloodPrice" 22 8 3 true := ⟨RX8, TX8, kc_8, by decide, rfl, rfl, tw_156⟩
theorem fl_X8_26 : FL "BloodPrice" 26 8 4 true := ⟨RX8, TX8, kc_8, by decide, rfl, rfl, tw_157⟩
theorem fl_X8_30 : FL "BloodPrice" 30 8 6 false := ⟨RX8, TX8, kc_8, by decide, rfl, rfl, tw_159⟩
theorem fl_X8_37 : FL "BloodPrice" 37 8 8 true := ⟨RX8, TX8, kc_8, by decide, rfl, rfl, tw_161⟩
theorem fl_X8_44 : FL "BloodPrice" 44 8 9 true := ⟨RX8, TX8, kc_8, by decide, rfl, rfl, tw_162⟩
theorem fl_X8_51 : FL "BloodPrice" 51 8 10 true := ⟨RX8, TX8, kc_8, by decide, rfl, rfl, tw_163⟩
theorem fl_X8_57 : FL "BloodPrice" 57 8 11 true := ⟨RX8, TX8, kc_8, by decide, rfl, rfl, tw_164⟩
theorem fl_X8_64 : FL "BloodPrice" 64 8 13 true := ⟨RX8, TX8, kc_8, by decide, rfl, rfl, tw_166⟩
theorem fl_X8_68 : FL "BloodPrice" 68 8 14 true := ⟨RX8, TX8, kc_8, by decide, rfl, rfl, tw_167⟩
theorem fl_X8_71 : FL "BloodPrice" 71 8 16 true := ⟨RX8, TX8, kc_8, by decide, rfl, rfl, tw_169⟩
theorem fl_X8_74 : FL "BloodPrice" 74 8 1 false := ⟨RX8, TX8, kc_8, by decide, rfl, rfl, tw_154⟩
theorem fl_X8_92 : FL "BloodPrice" 92 5 2 false := ⟨RX5, TX5, kc_5, by decide, rfl, rfl, tw_32⟩
theorem fl_X8_107 : FL "BloodPrice" 107 4 8 false := ⟨RX4, TX4, kc_4, by decide, rfl, rfl, tw_341⟩
theorem fl_X8_110 : FL "BloodPrice" 110 8 5 false := ⟨RX8, TX8, kc_8, by decide, rfl, rfl, tw_158⟩
theorem fl_X8_113 : FL "BloodPrice" 113 4 9 false := ⟨RX4, TX4, kc_4, by decide, rfl, rfl, tw_344⟩
theorem fl_X8_116 : FL "BloodPrice" 116 1 0 true := ⟨RX1, TX1, kc_1, by decide, rfl, rfl, tw_267⟩
theorem fl_X8_133 : FL "BloodPrice" 133 8 7 false := ⟨RX8, TX8, kc_8, by decide, rfl, rfl, tw_160⟩
theorem fl_X8_152 : FL "BloodPrice" 152 8 12 false := ⟨RX8, TX8, kc_8, by decide, rfl, rfl, tw_165⟩
theorem fl_X8_166 : FL "BloodPrice" 166 0 6 false := ⟨RX0, TX0, kc_0, by decide, rfl, rfl, tw_576⟩
theorem fl_X8_169 : FL "BloodPrice" 169 0 7 false := ⟨RX0, TX0, kc_0, by decide, rfl, rfl, tw_578⟩
theorem fl_X8_180 : FL "BloodPrice" 180 0 0 true := ⟨RX0, TX0, kc_0, by decide, rfl, rfl, tw_564⟩
theorem fl_X8_183 : FL "BloodPrice" 183 0 1 true := ⟨RX0, TX0, kc_0, by decide, rfl, rfl, tw_566⟩
theorem fl_X8_186 : FL "BloodPrice" 186 0 3 true := ⟨RX0, TX0, kc_0, by decide, rfl, rfl, tw_570⟩
theorem fl_X8_197 : FL "BloodPrice" 197 0 8 false := ⟨RX0, TX0, kc_0, by decide, rfl, rfl, tw_580⟩
theorem fl_X8_200 : FL "BloodPrice" 200 1 7 false := ⟨RX1, TX1, kc_1, by decide, rfl, rfl, tw_283⟩
theorem fl_X8_203 : FL "BloodPrice" 203 0 9 false := ⟨RX0, TX0, kc_0, by decide, rfl, rfl, tw_582⟩
theorem fl_X8_204 : FL "BloodPrice" 204 1 8 false := ⟨RX1, TX1, kc_1, by decide, rfl, rfl, tw_286⟩
theorem fl_X8_207 : FL "BloodPrice" 207 0 10 false := ⟨RX0, TX0, kc_0, by decide, rfl, rfl, tw_583⟩
theorem fl_X8_211 : FL "BloodPrice" 211 8 15 false := ⟨RX8, TX8, kc_8, by decide, rfl, rfl, tw_168⟩
theorem fl_X8_220 : FL "BloodPrice" 220 3 7 false := ⟨RX3, TX3, kc_3, by decide, rfl, rfl, tw_66⟩
theorem fl_X8_221 : FL "BloodPrice" 221 6 4 false := ⟨RX6, TX6, kc_6, by decide, rfl, rfl, tw_96⟩
theorem fl_X8_222 : FL "BloodPrice" 222 7 4 false := ⟨RX7, TX7, kc_7, by decide, rfl, rfl, tw_119⟩
theorem fl_X8_223 : FL "BloodPrice" 223 2 3 false := ⟨RX2, TX2, kc_2, by decide, rfl, rfl, tw_143⟩
theorem fl_X8_248 : FL "BloodPrice" 248 1 1 true := ⟨RX1, TX1, kc_1, by decide, rfl, rfl, tw_270⟩
theorem fl_X8_251 : FL "BloodPrice" 251 0 2 true := ⟨RX0, TX0, kc_0, by decide, rfl, rfl, tw_568⟩
theorem fl_X8_263 : FL "BloodPrice" 263 0 4 true := ⟨RX0, TX0, kc_0, by decide, rfl, rfl, tw_572⟩
theorem fl_X8_266 : FL "BloodPrice" 266 0 5 true := ⟨RX0, TX0, kc_0, by decide, rfl, rfl, tw_574⟩
theorem fl_X8_275 : FL "BloodPrice" 275 1 5 false := ⟨RX1, TX1, kc_1, by decide, rfl, rfl, tw_278⟩
theorem fl_X8_287 : FL "BloodPrice" 287 3 4 true := ⟨RX3, TX3, kc_3, by decide, rfl, rfl, tw_60⟩
theorem fl_X8_290 : FL "BloodPrice" 290 1 6 false := ⟨RX1, TX1, kc_1, by decide, rfl, rfl, tw_280⟩
theorem fl_X8_297 : FL "BloodPrice" 297 3 6 false := ⟨RX3, TX3, kc_3, by decide, rfl, rfl, tw_64⟩
theorem fl_X8_303 : FL "BloodPrice" 303 3 5 true := ⟨RX3, TX3, kc_3, by decide, rfl, rfl, tw_62⟩
theorem fl_X0_9 : FL "BloodPrice$Case" 9 0 6 false := ⟨RX0, TX0, kc_0, by decide, rfl, rfl, tw_575⟩
theorem fl_X0_15 : FL "BloodPrice$Case" 15 0 7 false := ⟨RX0, TX0, kc_0, by decide, rfl, rfl, tw_577⟩
theorem fl_X0_18 : FL "BloodPrice$Case" 18 0 0 true := ⟨RX0, TX0, kc_0, by decide, rfl, rfl, tw_563⟩
theorem fl_X0_21 : FL "BloodPrice$Case" 21 0 1 true := ⟨RX0, TX0, kc_0, by decide, rfl, rfl, tw_565⟩
theorem fl_X0_24 : FL "BloodPrice$Case" 24 0 2 true := ⟨RX0, TX0, kc_0, by decide, rfl, rfl, tw_567⟩
theorem fl_X0_28 : FL "BloodPrice$Case" 28 0 3 true := ⟨RX0, TX0, kc_0, by decide, rfl, rfl, tw_569⟩
theorem fl_X0_31 : FL "BloodPrice$Case" 31 0 4 true := ⟨RX0, TX0, kc_0, by decide, rfl, rfl, tw_571⟩
theorem fl_X0_34 : FL "BloodPrice$Case" 34 0 5 true := ⟨RX0, TX0, kc_0, by decide, rfl, rfl, tw_573⟩
theorem fl_X0_38 : FL "BloodPrice$Case" 38 0 9 false := ⟨RX0, TX0, kc_0, by decide, rfl, rfl, tw_581⟩
theorem fl_X0_41 : FL "BloodPrice$Case" 41 0 8 false := ⟨RX0, TX0, kc_0, by decide, rfl, rfl, tw_579⟩
theorem fl_X1_9 : FL "BloodPrice$Law" 9 1 1 true := ⟨RX1, TX1, kc_1, by decide, rfl, rfl, tw_268⟩
theorem fl_X1_15 : FL "BloodPrice$Law" 15 1 2 true := ⟨RX1, TX1, kc_1, by decide, rfl, rfl, tw_271⟩
theorem fl_X1_19 : FL "BloodPrice$Law" 19 1 7 false := ⟨RX1, TX1, kc_1, by decide, rfl, rfl, tw_281⟩
theorem fl_X1_23 : FL "BloodPrice$Law" 23 1 8 false := ⟨RX1, TX1, kc_1, by decide, rfl, rfl, tw_284⟩
theorem fl_X1_26 : FL "BloodPrice$Law" 26 1 9 true := ⟨RX1, TX1, kc_1, by decide, rfl, rfl, tw_287⟩
theorem fl_X1_29 : FL "BloodPrice$Law" 29 1 10 true := ⟨RX1, TX1, kc_1, by decide, rfl, rfl, tw_288⟩
theorem fl_X1_32 : FL "BloodPrice$Law" 32 1 11 true := ⟨RX1, TX1, kc_1, by decide, rfl, rfl, tw_289⟩
theorem fl_X1_35 : FL "BloodPrice$Law" 35 1 12 true := ⟨RX1, TX1, kc_1, by decide, rfl, rfl, tw_290⟩
theorem fl_X1_38 : FL "BloodPrice$Law" 38 1 15 true := ⟨RX1, TX1, kc_1, by decide, rfl, rfl, tw_293⟩
theorem fl_X1_41 : FL "BloodPrice$Law" 41 1 0 true := ⟨RX1, TX1, kc_1, by decide, rfl, rfl, tw_266⟩
theorem fl_X1_44 : FL "BloodPrice$Law" 44 1 13 true := ⟨RX1, TX1, kc_1, by decide, rfl, rfl, tw_291⟩
theorem fl_X1_47 : FL "BloodPrice$Law" 47 1 3 false := ⟨RX1, TX1, kc_1, by decide, rfl, rfl, tw_273⟩
theorem fl_X1_50 : FL "BloodPrice$Law" 50 1 14 false := ⟨RX1, TX1, kc_1, by decide, rfl, rfl, tw_292⟩
theorem fl_X1_53 : FL "BloodPrice$Law" 53 1 4 false := ⟨RX1, TX1, kc_1, by decide, rfl, rfl, tw_275⟩
theorem fl_X2_9 : FL "BloodPrice$Payments" 9 2 0 true := ⟨RX2, TX2, kc_2, by decide, rfl, rfl, tw_139⟩
theorem fl_X2_15 : FL "BloodPrice$Payments" 15 2 1 true := ⟨RX2, TX2, kc_2, by decide, rfl, rfl, tw_140⟩
theorem fl_X2_18 : FL "BloodPrice$Payments" 18 2 2 true := ⟨RX2, TX2, kc_2, by decide, rfl, rfl, tw_141⟩
theorem fl_X2_21 : FL "BloodPrice$Payments" 21 2 3 false := ⟨RX2, TX2, kc_2, by decide, rfl, rfl, tw_142⟩
theorem fl_X3_9 : FL "BloodPrice$People" 9 3 0 true := ⟨RX3, TX3, kc_3, by decide, rfl, rfl, tw_55⟩
theorem fl_X3_15 : FL "BloodPrice$People" 15 3 1 true := ⟨RX3, TX3, kc_3, by decide, rfl, rfl, tw_56⟩
theorem fl_X3_18 : FL "BloodPrice$People" 18 3 2 true := ⟨RX3, TX3, kc_3, by decide, rfl, rfl, tw_57⟩
theorem fl_X3_21 : FL "BloodPrice$People" 21 3 3 true := ⟨RX3, TX3, kc_3, by decide, rfl, rfl, tw_58⟩
theorem fl_X3_24 : FL "BloodPrice$People" 24 3 4 true := ⟨RX3, TX3, kc_3, by decide, rfl, rfl, tw_59⟩
theorem fl_X3_27 : FL "BloodPrice$People" 27 3 5 true := ⟨RX3, TX3, kc_3, by decide, rfl, rfl, tw_61⟩
theorem fl_X3_31 : FL "BloodPrice$People" 31 3 7 false := ⟨RX3, TX3, kc_3, by decide, rfl, rfl, tw_65⟩
theorem fl_X3_47 : FL "BloodPrice$People" 47 3 6 false := ⟨RX3, TX3, kc_3, by decide, rfl, rfl, tw_63⟩
theorem fl_X4_9 : FL "BloodPrice$Reader" 9 4 9 false := ⟨RX4, TX4, kc_4, by decide, rfl, rfl, tw_343⟩
theorem fl_X4_15 : FL "BloodPrice$Reader" 15 4 0 true := ⟨RX4, TX4, kc_4, by decide, rfl, rfl, tw_333⟩
theorem fl_X4_19 : FL "BloodPrice$Reader" 19 4 1 true := ⟨RX4, TX4, kc_4, by decide, rfl, rfl, tw_334⟩
theorem fl_X4_23 : FL "BloodPrice$Reader" 23 5 0 true := ⟨RX5, TX5, kc_5, by decide, rfl, rfl, tw_28⟩
theorem fl_X4_29 : FL "BloodPrice$Reader" 29 4 3 false := ⟨RX4, TX4, kc_4, by decide, rfl, rfl, tw_336⟩
theorem fl_X4_63 : FL "BloodPrice$Reader" 63 1 3 false := ⟨RX1, TX1, kc_1, by decide, rfl, rfl, tw_274⟩
theorem fl_X4_75 : FL "BloodPrice$Reader" 75 1 1 true := ⟨RX1, TX1, kc_1, by decide, rfl, rfl, tw_269⟩
theorem fl_X4_96 : FL "BloodPrice$Reader" 96 1 4 false := ⟨RX1, TX1, kc_1, by decide, rfl, rfl, tw_276⟩
theorem fl_X4_112 : FL "BloodPrice$Reader" 112 4 5 false := ⟨RX4, TX4, kc_4, by decide, rfl, rfl, tw_338⟩
theorem fl_X4_116 : FL "BloodPrice$Reader" 116 1 2 true := ⟨RX1, TX1, kc_1, by decide, rfl, rfl, tw_272⟩
theorem fl_X4_120 : FL "BloodPrice$Reader" 120 4 6 false := ⟨RX4, TX4, kc_4, by decide, rfl, rfl, tw_339⟩
theorem fl_X4_123 : FL "BloodPrice$Reader" 123 1 5 false := ⟨RX1, TX1, kc_1, by decide, rfl, rfl, tw_277⟩
theorem fl_X4_128 : FL "BloodPrice$Reader" 128 1 6 false := ⟨RX1, TX1, kc_1, by decide, rfl, rfl, tw_279⟩
theorem fl_X4_131 : FL "BloodPrice$Reader" 131 4 7 false := ⟨RX4, TX4, kc_4, by decide, rfl, rfl, tw_340⟩
theorem fl_X4_134 : FL "BloodPrice$Reader" 134 1 7 false := ⟨RX1, TX1, kc_1, by decide, rfl, rfl, tw_282⟩
theorem fl_X4_139 : FL "BloodPrice$Reader" 139 1 8 false := ⟨RX1, TX1, kc_1, by decide, rfl, rfl, tw_285⟩
theorem fl_X4_171 : FL "BloodPrice$Reader" 171 4 4 false := ⟨RX4, TX4, kc_4, by decide, rfl, rfl, tw_337⟩
theorem fl_X4_176 : FL "BloodPrice$Reader" 176 4 8 false := ⟨RX4, TX4, kc_4, by decide, rfl, rfl, tw_342⟩
theorem fl_X4_179 : FL "BloodPrice$Reader" 179 5 1 true := ⟨RX5, TX5, kc_5, by decide, rfl, rfl, tw_30⟩
theorem fl_X4_182 : FL "BloodPrice$Reader" 182 4 2 false := ⟨RX4, TX4, kc_4, by decide, rfl, rfl, tw_335⟩
theorem fl_X4_185 : FL "BloodPrice$Reader" 185 5 2 false := ⟨RX5, TX5, kc_5, by decide, rfl, rfl, tw_33⟩
theorem fl_X5_9 : FL "BloodPrice$Tokens" 9 5 0 true := ⟨RX5, TX5, kc_5, by decide, rfl, rfl, tw_27⟩
theorem fl_X5_15 : FL "BloodPrice$Tokens" 15 5 1 true := ⟨RX5, TX5, kc_5, by decide, rfl, rfl, tw_29⟩
theorem fl_X5_19 : FL "BloodPrice$Tokens" 19 5 2 false := ⟨RX5, TX5, kc_5, by decide, rfl, rfl, tw_31⟩
theorem fl_X5_60 : FL "BloodPrice$Tokens" 60 5 3 false := ⟨RX5, TX5, kc_5, by decide, rfl, rfl, tw_34⟩
theorem fl_X6_9 : FL "BloodPrice$Tolds" 9 6 0 true := ⟨RX6, TX6, kc_6, by decide, rfl, rfl, tw_91⟩
theorem fl_X6_15 : FL "BloodPrice$Tolds" 15 6 1 true := ⟨RX6, TX6, kc_6, by decide, rfl, rfl, tw_92⟩
theorem fl_X6_18 : FL "BloodPrice$Tolds" 18 6 2 true := ⟨RX6, TX6, kc_6, by decide, rfl, rfl, tw_93⟩
theorem fl_X6_21 : FL "BloodPrice$Tolds" 21 6 3 true := ⟨RX6, TX6, kc_6, by decide, rfl, rfl, tw_94⟩
theorem fl_X6_24 : FL "BloodPrice$Tolds" 24 6 4 false := ⟨RX6, TX6, kc_6, by decide, rfl, rfl, tw_95⟩
theorem fl_X7_9 : FL "BloodPrice$Truces" 9 7 0 true := ⟨RX7, TX7, kc_7, by decide, rfl, rfl, tw_114⟩
theorem fl_X7_15 : FL "BloodPrice$Truces" 15 7 1 true := ⟨RX7, TX7, kc_7, by decide, rfl, rfl, tw_115⟩
theorem fl_X7_18 : FL "BloodPrice$Truces" 18 7 2 true := ⟨RX7, TX7, kc_7, by decide, rfl, rfl, tw_116⟩
theorem fl_X7_21 : FL "BloodPrice$Truces" 21 7 3 true := ⟨RX7, TX7, kc_7, by decide, rfl, rfl, tw_117⟩
theorem fl_X7_24 : FL "BloodPrice$Truces" 24 7 4 false := ⟨RX7, TX7, kc_7, by decide, rfl, rfl, tw_118⟩
theorem fl_X9_7 : FL "BloodPriceModel" 7 9 0 true := ⟨RX9, TX9, kc_9, by decide, rfl, rfl, tw_759⟩
theorem fl_X9_13 : FL "BloodPriceModel" 13 9 1 true := ⟨RX9, TX9, kc_9, by decide, rfl, rfl, tw_760⟩
theorem fl_X9_16 : FL "BloodPriceModel" 16 9 5 false := ⟨RX9, TX9, kc_9, by decide, rfl, rfl, tw_764⟩
theorem fl_X9_20 : FL "BloodPriceModel" 20 9 12 true := ⟨RX9, TX9, kc_9, by decide, rfl, rfl, tw_771⟩
theorem fl_X9_24 : FL "BloodPriceModel" 24 9 13 true := ⟨RX9, TX9, kc_9, by decide, rfl, rfl, tw_772⟩
theorem fl_X9_27 : FL "BloodPriceModel" 27 9 14 true := ⟨RX9, TX9, kc_9, by decide, rfl, rfl, tw_773⟩
theorem fl_X9_30 : FL "BloodPriceModel" 30 9 15 true := ⟨RX9, TX9, kc_9, by decide, rfl, rfl, tw_774⟩
theorem fl_X9_33 : FL "BloodPriceModel" 33 9 16 true := ⟨RX9, TX9, kc_9, by decide, rfl, rfl, tw_775⟩
theorem fl_X9_36 : FL "BloodPriceModel" 36 9 17 true := ⟨RX9, TX9, kc_9, by decide, rfl, rfl, tw_776⟩
theorem fl_X9_39 : FL "BloodPriceModel" 39 9 18 true := ⟨RX9, TX9, kc_9, by decide, rfl, rfl, tw_777⟩
theorem fl_X9_42 : FL "BloodPriceModel" 42 9 19 true := ⟨RX9, TX9, kc_9, by decide, rfl, rfl, tw_778⟩
theorem fl_X9_45 : FL "BloodPriceModel" 45 9 20 true := ⟨RX9, TX9, kc_9, by decide, rfl, rfl, tw_779⟩
theorem fl_X9_48 : FL "BloodPriceModel" 48 9 21 true := ⟨RX9, TX9, kc_9, by decide, rfl, rfl, tw_780⟩
theorem fl_X9_51 : FL "BloodPriceModel" 51 9 22 true := ⟨RX9, TX9, kc_9, by decide, rfl, rfl, tw_781⟩
theorem fl_X9_54 : FL "BloodPriceModel" 54 9 23 true := ⟨RX9, TX9, kc_9, by decide, rfl, rfl, tw_782⟩
theorem fl_X9_57 : FL "BloodPriceModel" 57 9 24 true := ⟨RX9, TX9, kc_9, by decide, rfl, rfl, tw_783⟩
theorem fl_X9_60 : FL "BloodPriceModel" 60 9 25 true := ⟨RX9, TX9, kc_9, by decide, rfl, rfl, tw_784⟩
theorem fl_X9_63 : FL "BloodPriceModel" 63 9 26 true := ⟨RX9, TX9, kc_9, by decide, rfl, rfl, tw_785⟩
theorem fl_X9_66 : FL "BloodPriceModel" 66 9 27 true := ⟨RX9, TX9, kc_9, by decide, rfl, rfl, tw_786⟩
theorem fl_X9_69 : FL "BloodPriceModel" 69 9 28 true := ⟨RX9, TX9, kc_9, by decide, rfl, rfl, tw_787⟩
theorem fl_X9_72 : FL "BloodPriceModel" 72 9 29 true := ⟨RX9, TX9, kc_9, by decide, rfl, rfl, tw_788⟩
theorem fl_X9_76 : FL "BloodPriceModel" 76 9 30 true := ⟨RX9, TX9, kc_9, by decide, rfl, rfl, tw_789⟩
theorem fl_X9_80 : FL "BloodPriceModel" 80 9 31 true := ⟨RX9, TX9, kc_9, by decide, rfl, rfl, tw_790⟩
theorem fl_X9_83 : FL "BloodPriceModel" 83 9 32 true := ⟨RX9, TX9, kc_9, by decide, rfl, rfl, tw_791⟩
theorem fl_X9_86 : FL "BloodPriceModel" 86 9 37 true := ⟨RX9, TX9, kc_9, by decide, rfl, rfl, tw_796⟩
theorem fl_X9_89 : FL "BloodPriceModel" 89 9 40 true := ⟨RX9, TX9, kc_9, by decide, rfl, rfl, tw_799⟩
theorem fl_X9_92 : FL "BloodPriceModel" 92 9 41 true := ⟨RX9, TX9, kc_9, by decide, rfl, rfl, tw_800⟩
theorem fl_X9_95 : FL "BloodPriceModel" 95 9 42 true := ⟨RX9, TX9, kc_9, by decide, rfl, rfl, tw_801⟩
theorem fl_X9_98 : FL "BloodPriceModel" 98 9 43 true := ⟨RX9, TX9, kc_9, by decide, rfl, rfl, tw_802⟩
theorem fl_X9_101 : FL "BloodPriceModel" 101 9 44 true := ⟨RX9, TX9, kc_9, by decide, rfl, rfl, tw_803⟩
theorem fl_X9_104 : FL "BloodPriceModel" 104 9 45 true := ⟨RX9, TX9, kc_9, by decide, rfl, rfl, tw_804⟩
theorem fl_X9_107 : FL "BloodPriceModel" 107 9 46 true := ⟨RX9, TX9, kc_9, by decide, rfl, rfl, tw_805⟩
theorem fl_X9_110 : FL "BloodPriceModel" 110 9 47 true := ⟨RX9, TX9, kc_9, by decide, rfl, rfl, tw_806⟩
theorem fl_X9_113 : FL "BloodPriceModel" 113 9 48 true := ⟨RX9, TX9, kc_9, by decide, rfl, rfl, tw_807⟩
theorem fl_X9_116 : FL "BloodPriceModel" 116 9 49 true := ⟨RX9, TX9, kc_9, by decide, rfl, rfl, tw_808⟩
theorem fl_X9_119 : FL "BloodPriceModel" 119 9 50 true := ⟨RX9, TX9, kc_9, by decide, rfl, rfl, tw_809⟩
theorem fl_X9_122 : FL "BloodPriceModel" 122 9 51 true := ⟨RX9, TX9, kc_9, by decide, rfl, rfl, tw_810⟩
theorem fl_X9_125 : FL "BloodPriceModel" 125 9 55 true := ⟨RX9, TX9, kc_9, by decide, rfl, rfl, tw_814⟩
theorem fl_X9_128 : FL "BloodPriceModel" 128 9 56 true := ⟨RX9, TX9, kc_9, by decide, rfl, rfl, tw_815⟩
theorem fl_X9_131 : FL "BloodPriceModel" 131 9 57 true := ⟨RX9, TX9, kc_9, by decide, rfl, rfl, tw_816⟩
theorem fl_X9_134 : FL "BloodPriceModel" 134 9 58 true := ⟨RX9, TX9, kc_9, by decide, rfl, rfl, tw_817⟩
theorem fl_X9_137 : FL "BloodPriceModel" 137 9 59 true := ⟨RX9, TX9, kc_9, by decide, rfl, rfl, tw_818⟩
theorem fl_X9_140 : FL "BloodPriceModel" 140 9 60 true := ⟨RX9, TX9, kc_9, by decide, rfl, rfl, tw_819⟩
theorem fl_X9_143 : FL "BloodPriceModel" 143 9 61 true := ⟨RX9, TX9, kc_9, by decide, rfl, rfl, tw_820⟩
theorem fl_X9_146 : FL "BloodPriceModel" 146 9 62 true := ⟨RX9, TX9, kc_9, by decide, rfl, rfl, tw_821⟩
theorem fl_X9_149 : FL "BloodPriceModel" 149 9 63 true := ⟨RX9, TX9, kc_9, by decide, rfl, rfl, tw_822⟩
theorem fl_X9_152 : FL "BloodPriceModel" 152 9 64 true := ⟨RX9, TX9, kc_9, by decide, rfl, rfl, tw_823⟩
theorem fl_X9_155 : FL "BloodPriceModel" 155 9 65 true := ⟨RX9, TX9, kc_9, by decide, rfl, rfl, tw_824⟩
theorem fl_X9_158 : FL "BloodPriceModel" 158 9 67 true := ⟨RX9, TX9, kc_9, by decide, rfl, rfl, tw_826⟩
theorem fl_X9_161 : FL "BloodPriceModel" 161 9 68 true := ⟨RX9, TX9, kc_9, by decide, rfl, rfl, tw_827⟩
theorem fl_X9_164 : FL "BloodPriceModel" 164 9 69 true := ⟨RX9, TX9, kc_9, by decide, rfl, rfl, tw_828⟩
theorem fl_X9_167 : FL "BloodPriceModel" 167 9 70 true := ⟨RX9, TX9, kc_9, by decide, rfl, rfl, tw_829⟩
theorem fl_X9_170 : FL "BloodPriceModel" 170 9 71 true := ⟨RX9, TX9, kc_9, by decide, rfl, rfl, tw_830⟩
theorem fl_X9_173 : FL "BloodPriceModel" 173 9 72 true := ⟨RX9, TX9, kc_9, by decide, rfl, rfl, tw_831⟩
theorem fl_X9_176 : FL "BloodPriceModel" 176 9 3 false := ⟨RX9, TX9, kc_9, by decide, rfl, rfl, tw_762⟩
theorem fl_X9_179 : FL "BloodPriceModel" 179 9 4 false := ⟨RX9, TX9, kc_9, by decide, rfl, rfl, tw_763⟩
theorem fl_X9_228 : FL "BloodPriceModel" 228 9 8 false := ⟨RX9, TX9, kc_9, by decide, rfl, rfl, tw_767⟩
theorem fl_X9_231 : FL "BloodPriceModel" 231 9 7 false := ⟨RX9, TX9, kc_9, by decide, rfl, rfl, tw_766⟩
theorem fl_X9_238 : FL "BloodPriceModel" 238 9 9 false := ⟨RX9, TX9, kc_9, by decide, rfl, rfl, tw_768⟩
theorem fl_X9_245 : FL "BloodPriceModel" 245 9 11 false := ⟨RX9, TX9, kc_9, by decide, rfl, rfl, tw_770⟩
theorem fl_X9_256 : FL "BloodPriceModel" 256 9 10 false := ⟨RX9, TX9, kc_9, by decide, rfl, rfl, tw_769⟩
theorem fl_X9_277 : FL "BloodPriceModel" 277 9 2 false := ⟨RX9, TX9, kc_9, by decide, rfl, rfl, tw_761⟩
theorem fl_X9_280 : FL "BloodPriceModel" 280 9 33 false := ⟨RX9, TX9, kc_9, by decide, rfl, rfl, tw_792⟩
theorem fl_X9_283 : FL "BloodPriceModel" 283 9 34 false := ⟨RX9, TX9, kc_9, by decide, rfl, rfl, tw_793⟩
theorem fl_X9_286 : FL "BloodPriceModel" 286 9 35 false := ⟨RX9, TX9, kc_9, by decide, rfl, rfl, tw_794⟩
theorem fl_X9_289 : FL "BloodPriceModel" 289 9 36 false := ⟨RX9, TX9, kc_9, by decide, rfl, rfl, tw_795⟩
theorem fl_X9_328 : FL "BloodPriceModel" 328 9 38 false := ⟨RX9, TX9, kc_9, by decide, rfl, rfl, tw_797⟩
theorem fl_X9_331 : FL "BloodPriceModel" 331 9 39 false := ⟨RX9, TX9, kc_9, by decide, rfl, rfl, tw_798⟩
theorem fl_X9_353 : FL "BloodPriceModel" 353 9 52 false := ⟨RX9, TX9, kc_9, by decide, rfl, rfl, tw_811⟩
theorem fl_X9_362 : FL "BloodPriceModel" 362 9 53 false := ⟨RX9, TX9, kc_9, by decide, rfl, rfl, tw_812⟩
theorem fl_X9_365 : FL "BloodPriceModel" 365 9 6 false := ⟨RX9, TX9, kc_9, by decide, rfl, rfl, tw_765⟩
theorem fl_X9_368 : FL "BloodPriceModel" 368 9 54 false := ⟨RX9, TX9, kc_9, by decide, rfl, rfl, tw_813⟩
theorem fl_X9_371 : FL "BloodPriceModel" 371 9 66 false := ⟨RX9, TX9, kc_9, by decide, rfl, rfl, tw_825⟩
theorem fl_X9_428 : FL "BloodPriceModel" 428 9 73 false := ⟨RX9, TX9, kc_9, by decide, rfl, rfl, tw_832⟩
theorem fl_X9_431 : FL "BloodPriceModel" 431 9 74 false := ⟨RX9, TX9, kc_9, by decide, rfl, rfl, tw_833⟩
theorem sel_X8_caseAt : Cond.selects yX8_caseAt.cls yX8_caseAt yX8_caseAt ∈ GW := gw_sel (y := yX8_caseAt) (n := 17) (List.mem_append_right _ (List.mem_append_left _ (List.mem_of_getElem? (i := 2) rfl : (⟨"BloodPrice", "caseAt", "(I)LBloodPrice$Case;"⟩, 17) ∈ lw_privs_2))) rfl
theorem sel_X8_gatherFacts : Cond.selects yX8_gatherFacts.cls yX8_gatherFacts yX8_gatherFacts ∈ GW := gw_sel (y := yX8_gatherFacts) (n := 17) (List.mem_append_right _ (List.mem_append_left _ (List.mem_of_getElem? (i := 5) rfl : (⟨"BloodPrice", "gatherFacts", "(LBloodPrice$Case;I)V"⟩, 17) ∈ lw_privs_2))) rfl
theorem sel_X8_lawOfCase : Cond.selects yX8_lawOfCase.cls yX8_lawOfCase yX8_lawOfCase ∈ GW := gw_sel (y := yX8_lawOfCase) (n := 17) (List.mem_append_right _ (List.mem_append_left _ (List.mem_of_getElem? (i := 4) rfl : (⟨"BloodPrice", "lawOfCase", "(LBloodPrice$Case;)LBloodPrice$Law;"⟩, 17) ∈ lw_privs_2))) rfl
theorem sel_X8_maySwear : Cond.selects yX8_maySwear.cls yX8_maySwear yX8_maySwear ∈ GW := gw_sel (y := yX8_maySwear) (n := 17) (List.mem_append_right _ (List.mem_append_left _ (List.mem_of_getElem? (i := 9) rfl : (⟨"BloodPrice", "maySwear", "(LBloodPrice$Case;LBloodPrice$Law;I)Z"⟩, 17) ∈ lw_privs_2))) rfl
theorem sel_X8_oathStands : Cond.selects yX8_oathStands.cls yX8_oathStands yX8_oathStands ∈ GW := gw_sel (y := yX8_oathStands) (n := 17) (List.mem_append_right _ (List.mem_append_left _ (List.mem_of_getElem? (i := 8) rfl : (⟨"BloodPrice", "oathStands", "(LBloodPrice$Case;LBloodPrice$Law;I)Z"⟩, 17) ∈ lw_privs_2))) rfl
theorem sel_X8_owedOn : Cond.selects yX8_owedOn.cls yX8_owedOn yX8_owedOn ∈ GW := gw_sel (y := yX8_owedOn) (n := 17) (List.mem_append_right _ (List.mem_append_left _ (List.mem_of_getElem? (i := 11) rfl : (⟨"BloodPrice", "owedOn", "(LBloodPrice$Case;II)I"⟩, 17) ∈ lw_privs_2))) rfl
theorem sel_X8_partOf : Cond.selects yX8_partOf.cls yX8_partOf yX8_partOf ∈ GW := gw_sel (y := yX8_partOf) (n := 17) (List.mem_append_right _ (List.mem_append_left _ (List.mem_of_getElem? (i := 10) rfl : (⟨"BloodPrice", "partOf", "(LBloodPrice$Case;IIII)I"⟩, 17) ∈ lw_privs_2))) rfl
theorem sel_X8_sumAsKnown : Cond.selects yX8_sumAsKnown.cls yX8_sumAsKnown yX8_sumAsKnown ∈ GW := gw_sel (y := yX8_sumAsKnown) (n := 17) (List.mem_append_right _ (List.mem_append_left _ (List.mem_of_getElem? (i := 3) rfl : (⟨"BloodPrice", "sumAsKnown", "(LBloodPrice$Case;I)I"⟩, 17) ∈ lw_privs_2))) rfl
theorem sel_X8_truceBroken : Cond.selects yX8_truceBroken.cls yX8_truceBroken yX8_truceBroken ∈ GW := gw_sel (y := yX8_truceBroken) (n := 17) (List.mem_append_right _ (List.mem_append_left _ (List.mem_of_getElem? (i := 6) rfl : (⟨"BloodPrice", "truceBroken", "(LBloodPrice$Case;)Z"⟩, 17) ∈ lw_privs_2))) rfl
theorem sel_X8_writeNumber : Cond.selects yX8_writeNumber.cls yX8_writeNumber yX8_writeNumber ∈ GW := gw_sel (y := yX8_writeNumber) (n := 17) (List.mem_append_left _ (List.mem_of_getElem? (i := 0) rfl : (⟨"BloodPrice", "writeNumber", "(I)V"⟩, 17) ∈ lw_privs_1)) rfl
theorem sel_X1_holds : Cond.selects yX1_holds.cls yX1_holds yX1_holds ∈ GW := gw_sel (y := yX1_holds) (n := 16) (List.mem_append_right _ (List.mem_append_left _ (List.mem_of_getElem? (i := 7) rfl : (⟨"BloodPrice$Law", "holds", "(II[I)Z"⟩, 16) ∈ lw_privs_2))) rfl
theorem sel_X3_stepBetween : Cond.selects yX3_stepBetween.cls yX3_stepBetween yX3_stepBetween ∈ GW := gw_sel (y := yX3_stepBetween) (n := 8) (List.mem_append_right _ (List.mem_append_left _ (List.mem_of_getElem? (i := 1) rfl : (⟨"BloodPrice$People", "stepBetween", "(III)V"⟩, 8) ∈ lw_privs_2))) rfl
theorem sel_X4_advance : Cond.selects yX4_advance.cls yX4_advance yX4_advance ∈ GW := gw_sel (y := yX4_advance) (n := 10) (List.mem_append_left _ (List.mem_of_getElem? (i := 6) rfl : (⟨"BloodPrice$Reader", "advance", "()V"⟩, 10) ∈ lw_privs_1)) rfl
theorem sel_X4_expect : Cond.selects yX4_expect.cls yX4_expect yX4_expect ∈ GW := gw_sel (y := yX4_expect) (n := 10) (List.mem_append_left _ (List.mem_of_getElem? (i := 8) rfl : (⟨"BloodPrice$Reader", "expect", "(J)Z"⟩, 10) ∈ lw_privs_1)) rfl
theorem sel_X4_readBoth : Cond.selects yX4_readBoth.cls yX4_readBoth yX4_readBoth ∈ GW := gw_sel (y := yX4_readBoth) (n := 10) (List.mem_append_left _ (List.mem_of_getElem? (i := 11) rfl : (⟨"BloodPrice$Reader", "readBoth", "(I)Z"⟩, 10) ∈ lw_privs_1)) rfl
theorem sel_X4_readEither : Cond.selects yX4_readEither.cls yX4_readEither yX4_readEither ∈ GW := gw_sel (y := yX4_readEither) (n := 10) (List.mem_append_left _ (List.mem_of_getElem? (i := 10) rfl : (⟨"BloodPrice$Reader", "readEither", "(I)Z"⟩, 10) ∈ lw_privs_1)) rfl
theorem sel_X4_readHurt : Cond.selects yX4_readHurt.cls yX4_readHurt yX4_readHurt ∈ GW := gw_sel (y := yX4_readHurt) (n := 10) (List.mem_append_left _ (List.mem_of_getElem? (i := 4) rfl : (⟨"BloodPrice$Reader", "readHurt", "()Z"⟩, 10) ∈ lw_privs_1)) rfl
theorem sel_X4_readNeed : Cond.selects yX4_readNeed.cls yX4_readNeed yX4_readNeed ∈ GW := gw_sel (y := yX4_readNeed) (n := 10) (List.mem_append_left _ (List.mem_of_getElem? (i := 15) rfl : (⟨"BloodPrice$Reader", "readNeed", "()Z"⟩, 10) ∈ lw_privs_1)) rfl
theorem sel_X4_readNumber : Cond.selects yX4_readNumber.cls yX4_readNumber yX4_readNumber ∈ GW := gw_sel (y := yX4_readNumber) (n := 10) (List.mem_append_left _ (List.mem_of_getElem? (i := 7) rfl : (⟨"BloodPrice$Reader", "readNumber", "(II)I"⟩, 10) ∈ lw_privs_1)) rfl
theorem sel_X4_readOne : Cond.selects yX4_readOne.cls yX4_readOne yX4_readOne ∈ GW := gw_sel (y := yX4_readOne) (n := 10) (List.mem_append_left _ (List.mem_of_getElem? (i := 12) rfl : (⟨"BloodPrice$Reader", "readOne", "(I)Z"⟩, 10) ∈ lw_privs_1)) rfl
theorem sel_X4_readOperand : Cond.selects yX4_readOperand.cls yX4_readOperand yX4_readOperand ∈ GW := gw_sel (y := yX4_readOperand) (n := 10) (List.mem_append_left _ (List.mem_of_getElem? (i := 13) rfl : (⟨"BloodPrice$Reader", "readOperand", "()Z"⟩, 10) ∈ lw_privs_1)) rfl
theorem sel_X4_readShare : Cond.selects yX4_readShare.cls yX4_readShare yX4_readShare ∈ GW := gw_sel (y := yX4_readShare) (n := 10) (List.mem_append_left _ (List.mem_of_getElem? (i := 14) rfl : (⟨"BloodPrice$Reader", "readShare", "()Z"⟩, 10) ∈ lw_privs_1)) rfl
theorem sel_X4_readTerms : Cond.selects yX4_readTerms.cls yX4_readTerms yX4_readTerms ∈ GW := gw_sel (y := yX4_readTerms) (n := 10) (List.mem_append_right _ (List.mem_append_left _ (List.mem_of_getElem? (i := 0) rfl : (⟨"BloodPrice$Reader", "readTerms", "()Z"⟩, 10) ∈ lw_privs_2))) rfl
theorem sel_X4_readWhen : Cond.selects yX4_readWhen.cls yX4_readWhen yX4_readWhen ∈ GW := gw_sel (y := yX4_readWhen) (n := 10) (List.mem_append_left _ (List.mem_of_getElem? (i := 9) rfl : (⟨"BloodPrice$Reader", "readWhen", "()Z"⟩, 10) ∈ lw_privs_1)) rfl
theorem sel_X4_refuse : Cond.selects yX4_refuse.cls yX4_refuse yX4_refuse ∈ GW := gw_sel (y := yX4_refuse) (n := 10) (List.mem_append_left _ (List.mem_of_getElem? (i := 5) rfl : (⟨"BloodPrice$Reader", "refuse", "(I)Z"⟩, 10) ∈ lw_privs_1)) rfl
theorem sel_X5_begin : Cond.selects yX5_begin.cls yX5_begin yX5_begin ∈ GW := gw_sel (y := yX5_begin) (n := 4) (List.mem_append_left _ (List.mem_of_getElem? (i := 3) rfl : (⟨"BloodPrice$Tokens", "begin", "(JI)V"⟩, 4) ∈ lw_privs_1)) rfl
theorem sel_X5_lengthenLast : Cond.selects yX5_lengthenLast.cls yX5_lengthenLast yX5_lengthenLast ∈ GW := gw_sel (y := yX5_lengthenLast) (n := 4) (List.mem_append_left _ (List.mem_of_getElem? (i := 2) rfl : (⟨"BloodPrice$Tokens", "lengthenLast", "(II)V"⟩, 4) ∈ lw_privs_1)) rfl
theorem sel_X5_spoilLast : Cond.selects yX5_spoilLast.cls yX5_spoilLast yX5_spoilLast ∈ GW := gw_sel (y := yX5_spoilLast) (n := 4) (List.mem_append_left _ (List.mem_of_getElem? (i := 1) rfl : (⟨"BloodPrice$Tokens", "spoilLast", "()V"⟩, 4) ∈ lw_privs_1)) rfl
theorem sel_X9_behind : Cond.selects yX9_behind.cls yX9_behind yX9_behind ∈ GW := gw_sel (y := yX9_behind) (n := 75) (List.mem_append_right _ (List.mem_append_right _ (List.mem_append_left _ (List.mem_of_getElem? (i := 13) rfl : (⟨"BloodPriceModel", "behind", "()Z"⟩, 75) ∈ lw_privs_3)))) rfl
theorem sel_X9_e : Cond.selects yX9_e.cls yX9_e yX9_e ∈ GW := gw_sel (y := yX9_e) (n := 75) (List.mem_append_right _ (List.mem_append_right _ (List.mem_append_left _ (List.mem_of_getElem? (i := 6) rfl : (⟨"BloodPriceModel", "e", "()V"⟩, 75) ∈ lw_privs_3)))) rfl
theorem sel_X9_fails : Cond.selects yX9_fails.cls yX9_fails yX9_fails ∈ GW := gw_sel (y := yX9_fails) (n := 75) (List.mem_append_right _ (List.mem_append_right _ (List.mem_append_left _ (List.mem_of_getElem? (i := 1) rfl : (⟨"BloodPriceModel", "fails", "(II)V"⟩, 75) ∈ lw_privs_3)))) rfl
theorem sel_X9_hurtOf : Cond.selects yX9_hurtOf.cls yX9_hurtOf yX9_hurtOf ∈ GW := gw_sel (y := yX9_hurtOf) (n := 75) (List.mem_append_right _ (List.mem_append_right _ (List.mem_append_left _ (List.mem_of_getElem? (i := 3) rfl : (⟨"BloodPriceModel", "hurtOf", "(IJ)I"⟩, 75) ∈ lw_privs_3)))) rfl
theorem sel_X9_is : Cond.selects yX9_is.cls yX9_is yX9_is ∈ GW := gw_sel (y := yX9_is) (n := 75) (List.mem_append_right _ (List.mem_append_right _ (List.mem_append_left _ (List.mem_of_getElem? (i := 9) rfl : (⟨"BloodPriceModel", "is", "(I)Z"⟩, 75) ∈ lw_privs_3)))) rfl
theorem sel_X9_isCase : Cond.selects yX9_isCase.cls yX9_isCase yX9_isCase ∈ GW := gw_sel (y := yX9_isCase) (n := 75) (List.mem_append_right _ (List.mem_append_right _ (List.mem_append_right _ (List.mem_of_getElem? (i := 5) rfl : (⟨"BloodPriceModel", "isCase", "(I)Z"⟩, 75) ∈ lw_privs_4)))) rfl
theorem sel_X9_isDead : Cond.selects yX9_isDead.cls yX9_isDead yX9_isDead ∈ GW := gw_sel (y := yX9_isDead) (n := 75) (List.mem_append_right _ (List.mem_append_right _ (List.mem_append_right _ (List.mem_of_getElem? (i := 11) rfl : (⟨"BloodPriceModel", "isDead", "(II)Z"⟩, 75) ∈ lw_privs_4)))) rfl
theorem sel_X9_isGood : Cond.selects yX9_isGood.cls yX9_isGood yX9_isGood ∈ GW := gw_sel (y := yX9_isGood) (n := 75) (List.mem_append_right _ (List.mem_append_left _ (List.mem_of_getElem? (i := 14) rfl : (⟨"BloodPriceModel", "isGood", "()Z"⟩, 75) ∈ lw_privs_2))) rfl
theorem sel_X9_isOf : Cond.selects yX9_isOf.cls yX9_isOf yX9_isOf ∈ GW := gw_sel (y := yX9_isOf) (n := 75) (List.mem_append_right _ (List.mem_append_right _ (List.mem_append_right _ (List.mem_of_getElem? (i := 13) rfl : (⟨"BloodPriceModel", "isOf", "(IIIII)Z"⟩, 75) ∈ lw_privs_4)))) rfl
theorem sel_X9_isPerson : Cond.selects yX9_isPerson.cls yX9_isPerson yX9_isPerson ∈ GW := gw_sel (y := yX9_isPerson) (n := 75) (List.mem_append_right _ (List.mem_append_right _ (List.mem_append_right _ (List.mem_of_getElem? (i := 3) rfl : (⟨"BloodPriceModel", "isPerson", "(I)Z"⟩, 75) ∈ lw_privs_4)))) rfl
theorem sel_X9_isTruce : Cond.selects yX9_isTruce.cls yX9_isTruce yX9_isTruce ∈ GW := gw_sel (y := yX9_isTruce) (n := 75) (List.mem_append_right _ (List.mem_append_right _ (List.mem_append_right _ (List.mem_of_getElem? (i := 9) rfl : (⟨"BloodPriceModel", "isTruce", "(III)Z"⟩, 75) ∈ lw_privs_4)))) rfl
theorem sel_X9_isWord : Cond.selects yX9_isWord.cls yX9_isWord yX9_isWord ∈ GW := gw_sel (y := yX9_isWord) (n := 75) (List.mem_append_right _ (List.mem_append_right _ (List.mem_append_left _ (List.mem_of_getElem? (i := 10) rfl : (⟨"BloodPriceModel", "isWord", "(J)Z"⟩, 75) ∈ lw_privs_3)))) rfl
theorem sel_X9_lawFor : Cond.selects yX9_lawFor.cls yX9_lawFor yX9_lawFor ∈ GW := gw_sel (y := yX9_lawFor) (n := 75) (List.mem_append_right _ (List.mem_append_right _ (List.mem_append_right _ (List.mem_of_getElem? (i := 2) rfl : (⟨"BloodPriceModel", "lawFor", "(II)I"⟩, 75) ∈ lw_privs_4)))) rfl
theorem sel_X9_lawOf : Cond.selects yX9_lawOf.cls yX9_lawOf yX9_lawOf ∈ GW := gw_sel (y := yX9_lawOf) (n := 75) (List.mem_append_right _ (List.mem_append_right _ (List.mem_append_right _ (List.mem_of_getElem? (i := 8) rfl : (⟨"BloodPriceModel", "lawOf", "(I)I"⟩, 75) ∈ lw_privs_4)))) rfl
theorem sel_X9_mustWord : Cond.selects yX9_mustWord.cls yX9_mustWord yX9_mustWord ∈ GW := gw_sel (y := yX9_mustWord) (n := 75) (List.mem_append_right _ (List.mem_append_right _ (List.mem_append_left _ (List.mem_of_getElem? (i := 14) rfl : (⟨"BloodPriceModel", "mustWord", "(J)V"⟩, 75) ∈ lw_privs_3)))) rfl
theorem sel_X9_next : Cond.selects yX9_next.cls yX9_next yX9_next ∈ GW := gw_sel (y := yX9_next) (n := 75) (List.mem_append_right _ (List.mem_append_left _ (List.mem_of_getElem? (i := 12) rfl : (⟨"BloodPriceModel", "next", "()V"⟩, 75) ∈ lw_privs_2))) rfl
theorem sel_X9_numeral : Cond.selects yX9_numeral.cls yX9_numeral yX9_numeral ∈ GW := gw_sel (y := yX9_numeral) (n := 75) (List.mem_append_right _ (List.mem_append_right _ (List.mem_append_left _ (List.mem_of_getElem? (i := 4) rfl : (⟨"BloodPriceModel", "numeral", "(II)I"⟩, 75) ∈ lw_privs_3)))) rfl
theorem sel_X9_one : Cond.selects yX9_one.cls yX9_one yX9_one ∈ GW := gw_sel (y := yX9_one) (n := 75) (List.mem_append_right _ (List.mem_append_right _ (List.mem_append_left _ (List.mem_of_getElem? (i := 8) rfl : (⟨"BloodPriceModel", "one", "()Z"⟩, 75) ∈ lw_privs_3)))) rfl
theorem sel_X9_paidBy : Cond.selects yX9_paidBy.cls yX9_paidBy yX9_paidBy ∈ GW := gw_sel (y := yX9_paidBy) (n := 75) (List.mem_append_right _ (List.mem_append_right _ (List.mem_append_right _ (List.mem_of_getElem? (i := 15) rfl : (⟨"BloodPriceModel", "paidBy", "(II)I"⟩, 75) ∈ lw_privs_4)))) rfl
theorem sel_X9_part : Cond.selects yX9_part.cls yX9_part yX9_part ∈ GW := gw_sel (y := yX9_part) (n := 75) (List.mem_append_right _ (List.mem_append_right _ (List.mem_append_right _ (List.mem_of_getElem? (i := 12) rfl : (⟨"BloodPriceModel", "part", "(IIIII)I"⟩, 75) ∈ lw_privs_4)))) rfl
theorem sel_X9_pile : Cond.selects yX9_pile.cls yX9_pile yX9_pile ∈ GW := gw_sel (y := yX9_pile) (n := 75) (List.mem_append_right _ (List.mem_append_right _ (List.mem_append_left _ (List.mem_of_getElem? (i := 7) rfl : (⟨"BloodPriceModel", "pile", "(I)V"⟩, 75) ∈ lw_privs_3)))) rfl
theorem sel_X9_price : Cond.selects yX9_price.cls yX9_price yX9_price ∈ GW := gw_sel (y := yX9_price) (n := 75) (List.mem_append_right _ (List.mem_append_right _ (List.mem_append_right _ (List.mem_of_getElem? (i := 7) rfl : (⟨"BloodPriceModel", "price", "(II)I"⟩, 75) ∈ lw_privs_4)))) rfl
theorem sel_X9_put : Cond.selects yX9_put.cls yX9_put yX9_put ∈ GW := gw_sel (y := yX9_put) (n := 75) (List.mem_append_right _ (List.mem_append_right _ (List.mem_append_left _ (List.mem_of_getElem? (i := 12) rfl : (⟨"BloodPriceModel", "put", "(II)V"⟩, 75) ∈ lw_privs_3)))) rfl
theorem sel_X9_readHurt : Cond.selects yX9_readHurt.cls yX9_readHurt yX9_readHurt ∈ GW := gw_sel (y := yX9_readHurt) (n := 75) (List.mem_append_right _ (List.mem_append_right _ (List.mem_append_left _ (List.mem_of_getElem? (i := 2) rfl : (⟨"BloodPriceModel", "readHurt", "()V"⟩, 75) ∈ lw_privs_3)))) rfl
theorem sel_X9_readLine : Cond.selects yX9_readLine.cls yX9_readLine yX9_readLine ∈ GW := gw_sel (y := yX9_readLine) (n := 75) (List.mem_append_right _ (List.mem_append_left _ (List.mem_of_getElem? (i := 15) rfl : (⟨"BloodPriceModel", "readLine", "()V"⟩, 75) ∈ lw_privs_2))) rfl
theorem sel_X9_readNeed : Cond.selects yX9_readNeed.cls yX9_readNeed yX9_readNeed ∈ GW := gw_sel (y := yX9_readNeed) (n := 75) (List.mem_append_right _ (List.mem_append_right _ (List.mem_append_right _ (List.mem_of_getElem? (i := 0) rfl : (⟨"BloodPriceModel", "readNeed", "()V"⟩, 75) ∈ lw_privs_4)))) rfl
theorem sel_X9_readShare : Cond.selects yX9_readShare.cls yX9_readShare yX9_readShare ∈ GW := gw_sel (y := yX9_readShare) (n := 75) (List.mem_append_right _ (List.mem_append_right _ (List.mem_append_left _ (List.mem_of_getElem? (i := 15) rfl : (⟨"BloodPriceModel", "readShare", "()V"⟩, 75) ∈ lw_privs_3)))) rfl
theorem sel_X9_readTerms : Cond.selects yX9_readTerms.cls yX9_readTerms yX9_readTerms ∈ GW := gw_sel (y := yX9_readTerms) (n := 75) (List.mem_append_right _ (List.mem_append_right _ (List.mem_append_right _ (List.mem_of_getElem? (i := 1) rfl : (⟨"BloodPriceModel", "readTerms", "()V"⟩, 75) ∈ lw_privs_4)))) rfl
theorem sel_X9_readWhen : Cond.selects yX9_readWhen.cls yX9_readWhen yX9_readWhen ∈ GW := gw_sel (y := yX9_readWhen) (n := 75) (List.mem_append_right _ (List.mem_append_right _ (List.mem_append_left _ (List.mem_of_getElem? (i := 5) rfl : (⟨"BloodPriceModel", "readWhen", "()V"⟩, 75) ∈ lw_privs_3)))) rfl
theorem sel_X9_side : Cond.selects yX9_side.cls yX9_side yX9_side ∈ GW := gw_sel (y := yX9_side) (n := 75) (List.mem_append_right _ (List.mem_append_right _ (List.mem_append_left _ (List.mem_of_getElem? (i := 11) rfl : (⟨"BloodPriceModel", "side", "()V"⟩, 75) ∈ lw_privs_3)))) rfl
theorem sel_X9_sign : Cond.selects yX9_sign.cls yX9_sign yX9_sign ∈ GW := gw_sel (y := yX9_sign) (n := 75) (List.mem_append_right _ (List.mem_append_left _ (List.mem_of_getElem? (i := 13) rfl : (⟨"BloodPriceModel", "sign", "(I)I"⟩, 75) ∈ lw_privs_2))) rfl
theorem sel_X9_sumOf : Cond.selects yX9_sumOf.cls yX9_sumOf yX9_sumOf ∈ GW := gw_sel (y := yX9_sumOf) (n := 75) (List.mem_append_right _ (List.mem_append_right _ (List.mem_append_right _ (List.mem_of_getElem? (i := 6) rfl : (⟨"BloodPriceModel", "sumOf", "(II)I"⟩, 75) ∈ lw_privs_4)))) rfl
theorem sel_X9_termOf : Cond.selects yX9_termOf.cls yX9_termOf yX9_termOf ∈ GW := gw_sel (y := yX9_termOf) (n := 75) (List.mem_append_right _ (List.mem_append_right _ (List.mem_append_right _ (List.mem_of_getElem? (i := 14) rfl : (⟨"BloodPriceModel", "termOf", "(II)I"⟩, 75) ∈ lw_privs_4)))) rfl
theorem sel_X9_wider : Cond.selects yX9_wider.cls yX9_wider yX9_wider ∈ GW := gw_sel (y := yX9_wider) (n := 75) (List.mem_append_right _ (List.mem_append_right _ (List.mem_append_right _ (List.mem_of_getElem? (i := 4) rfl : (⟨"BloodPriceModel", "wider", "(I)I"⟩, 75) ∈ lw_privs_4)))) rfl
theorem sel_X9_work : Cond.selects yX9_work.cls yX9_work yX9_work ∈ GW := gw_sel (y := yX9_work) (n := 75) (List.mem_append_right _ (List.mem_append_right _ (List.mem_append_right _ (List.mem_of_getElem? (i := 10) rfl : (⟨"BloodPriceModel", "work", "(II)I"⟩, 75) ∈ lw_privs_4)))) rfl
theorem sel_X9_wrong : Cond.selects yX9_wrong.cls yX9_wrong yX9_wrong ∈ GW := gw_sel (y := yX9_wrong) (n := 75) (List.mem_append_right _ (List.mem_append_right _ (List.mem_append_left _ (List.mem_of_getElem? (i := 0) rfl : (⟨"BloodPriceModel", "wrong", "()V"⟩, 75) ∈ lw_privs_3)))) rfl
theorem cl_X8_77 : CLV "BloodPrice" 77 yX8_writeNumber cX8_writeNumber 3 none 1 := ⟨⟨tw_209, tw_211, sel_X8_writeNumber, tw_1, tw_212⟩, ⟨by decide, by decide, by decide +kernel⟩, by decide⟩
theorem cl_X8_81 : CLS "BloodPrice" 81 yX8_isFolk cX8_isFolk 1 (some .boolean) 1 := ⟨⟨tw_221, tw_222, tw_1, tw_223⟩, ⟨by decide, by decide, by decide +kernel⟩, by decide⟩
theorem cl_X8_85 : CLS "BloodPrice" 85 yX8_isDay cX8_isDay 1 (some .boolean) 1 := ⟨⟨tw_224, tw_225, tw_1, tw_226⟩, ⟨by decide, by decide, by decide +kernel⟩, by decide⟩
theorem cl_X8_88 : CLV "BloodPrice" 88 yX5_split cX5_split 7 none 2 := ⟨⟨tw_228, tw_229, tw_230, tw_2, tw_231⟩, ⟨by decide, by decide, by decide +kernel⟩, by decide⟩
theorem cl_X8_95 : CLI "BloodPrice" 95 yX1_init cX1_init 3 2 := ⟨⟨tw_262, tw_263, tw_8, tw_264⟩, rfl, ⟨by decide, by decide, by decide +kernel⟩, by decide⟩
theorem cl_X8_100 : CLI "BloodPrice" 100 yX4_init cX4_init 3 2 := ⟨⟨tw_329, tw_330, tw_9, tw_331⟩, rfl, ⟨by decide, by decide, by decide +kernel⟩, by decide⟩
theorem cl_X8_103 : CLV "BloodPrice" 103 yX4_readText cX4_readText 3 (some .boolean) 0 := ⟨⟨tw_366, tw_367, tw_368, tw_9, tw_369⟩, ⟨by decide, by decide, by decide +kernel⟩, by decide⟩
theorem cl_X8_119 : CLV "BloodPrice" 119 yX3_canBeParent cX3_canBeParent 2 (some .boolean) 1 := ⟨⟨tw_488, tw_489, tw_490, tw_3, tw_491⟩, ⟨by decide, by decide, by decide +kernel⟩, by decide⟩
theorem cl_X8_122 : CLV "BloodPrice" 122 yX3_add cX3_add 4 (some .int) 3 := ⟨⟨tw_496, tw_497, tw_498, tw_3, tw_499⟩, ⟨by decide, by decide, by decide +kernel⟩, by decide⟩
theorem cl_X8_126 : CLV "BloodPrice" 126 yX3_stepsBetween cX3_stepsBetween 3 (some .int) 2 := ⟨⟨tw_504, tw_505, tw_506, tw_3, tw_507⟩, ⟨by decide, by decide, by decide +kernel⟩, by decide⟩
theorem cl_X8_130 : CLV "BloodPrice" 130 yX3_isThere cX3_isThere 2 (some .boolean) 1 := ⟨⟨tw_520, tw_493, tw_494, tw_3, tw_495⟩, ⟨by decide, by decide, by decide +kernel⟩, by decide⟩
theorem cl_X8_136 : CLV "BloodPrice" 136 yX6_add cX6_add 5 (some .int) 4 := ⟨⟨tw_521, tw_522, tw_523, tw_4, tw_524⟩, ⟨by decide, by decide, by decide +kernel⟩, by decide⟩
theorem cl_X8_139 : CLV "BloodPrice" 139 yX6_rankAsKnown cX6_rankAsKnown 8 (some .int) 3 := ⟨⟨tw_529, tw_530, tw_531, tw_4, tw_532⟩, ⟨by decide, by decide, by decide +kernel⟩, by decide⟩
theorem cl_X8_142 : CLV "BloodPrice" 142 yX3_bury cX3_bury 3 (some .boolean) 2 := ⟨⟨tw_537, tw_538, tw_539, tw_3, tw_540⟩, ⟨by decide, by decide, by decide +kernel⟩, by decide⟩
theorem cl_X8_146 : CLV "BloodPrice" 146 yX7_add cX7_add 5 (some .int) 4 := ⟨⟨tw_545, tw_546, tw_547, tw_5, tw_548⟩, ⟨by decide, by decide, by decide +kernel⟩, by decide⟩
theorem cl_X8_148 : CLS "BloodPrice" 148 yX8_isName cX8_isName 5 (some .boolean) 1 := ⟨⟨tw_557, tw_384, tw_1, tw_385⟩, ⟨by decide, by decide, by decide +kernel⟩, by decide⟩
theorem cl_X8_155 : CLI "BloodPrice" 155 yX0_init cX0_init 8 6 := ⟨⟨tw_559, tw_560, tw_10, tw_561⟩, rfl, ⟨by decide, by decide, by decide +kernel⟩, by decide⟩
theorem cl_X8_158 : CLV "BloodPrice" 158 yX8_caseAt cX8_caseAt 2 (some (.object "BloodPrice$Case")) 1 := ⟨⟨tw_611, tw_613, sel_X8_caseAt, tw_1, tw_614⟩, ⟨by decide, by decide, by decide +kernel⟩, by decide⟩
theorem cl_X8_162 : CLV "BloodPrice" 162 yX8_sumAsKnown cX8_sumAsKnown 5 (some .int) 2 := ⟨⟨tw_615, tw_617, sel_X8_sumAsKnown, tw_1, tw_618⟩, ⟨by decide, by decide, by decide +kernel⟩, by decide⟩
theorem cl_X8_172 : CLV "BloodPrice" 172 yX8_lawOfCase cX8_lawOfCase 4 (some (.object "BloodPrice$Law")) 1 := ⟨⟨tw_619, tw_621, sel_X8_lawOfCase, tw_1, tw_622⟩, ⟨by decide, by decide, by decide +kernel⟩, by decide⟩
theorem cl_X8_176 : CLV "BloodPrice" 176 yX8_oathStands cX8_oathStands 5 (some .boolean) 3 := ⟨⟨tw_668, tw_670, sel_X8_oathStands, tw_1, tw_671⟩, ⟨by decide, by decide, by decide +kernel⟩, by decide⟩
theorem cl_X8_189 : CLV "BloodPrice" 189 yX8_truceBroken cX8_truceBroken 2 (some .boolean) 1 := ⟨⟨tw_632, tw_634, sel_X8_truceBroken, tw_1, tw_635⟩, ⟨by decide, by decide, by decide +kernel⟩, by decide⟩
theorem cl_X8_193 : CLV "BloodPrice" 193 yX8_partOf cX8_partOf 12 (some .int) 5 := ⟨⟨tw_695, tw_697, sel_X8_partOf, tw_1, tw_698⟩, ⟨by decide, by decide, by decide +kernel⟩, by decide⟩
theorem cl_X8_208 : CLS "BloodPrice" 208 yX8_isKind cX8_isKind 1 (some .boolean) 1 := ⟨⟨tw_721, tw_722, tw_1, tw_723⟩, ⟨by decide, by decide, by decide +kernel⟩, by decide⟩
theorem cl_X8_214 : CLV "BloodPrice" 214 yX2_add cX2_add 4 (some .int) 3 := ⟨⟨tw_728, tw_729, tw_730, tw_6, tw_731⟩, ⟨by decide, by decide, by decide +kernel⟩, by decide⟩
theorem cl_X8_216 : CLV "BloodPrice" 216 yX8_owedOn cX8_owedOn 8 (some .int) 3 := ⟨⟨tw_737, tw_739, sel_X8_owedOn, tw_1, tw_740⟩, ⟨by decide, by decide, by decide +kernel⟩, by decide⟩
theorem cl_X8_226 : CLS "BloodPrice" 226 yX8_isLetter cX8_isLetter 1 (some .boolean) 1 := ⟨⟨tw_387, tw_236, tw_1, tw_237⟩, ⟨by decide, by decide, by decide +kernel⟩, by decide⟩
theorem cl_X8_233 : CLS "BloodPrice" 233 yX8_placeIn cX8_placeIn 4 (some .int) 2 := ⟨⟨tw_390, tw_391, tw_1, tw_392⟩, ⟨by decide, by decide, by decide +kernel⟩, by decide⟩
theorem cl_X8_237 : CLV "BloodPrice" 237 yX3_folkOf cX3_folkOf 2 (some .int) 1 := ⟨⟨tw_623, tw_624, tw_625, tw_3, tw_626⟩, ⟨by decide, by decide, by decide +kernel⟩, by decide⟩
theorem cl_X8_241 : CLV "BloodPrice" 241 yX8_lawOn cX8_lawOn 7 (some .int) 2 := ⟨⟨tw_627, tw_481, tw_482, tw_1, tw_483⟩, ⟨by decide, by decide, by decide +kernel⟩, by decide⟩
theorem cl_X8_244 : CLV "BloodPrice" 244 yX7_held cX7_held 6 (some .boolean) 3 := ⟨⟨tw_636, tw_637, tw_638, tw_5, tw_639⟩, ⟨by decide, by decide, by decide +kernel⟩, by decide⟩
theorem cl_X8_255 : CLV "BloodPrice" 255 yX8_gatherFacts cX8_gatherFacts 4 none 2 := ⟨⟨tw_628, tw_630, sel_X8_gatherFacts, tw_1, tw_631⟩, ⟨by decide, by decide, by decide +kernel⟩, by decide⟩
theorem cl_X8_259 : CLV "BloodPrice" 259 yX1_priceOf cX1_priceOf 6 (some .int) 2 := ⟨⟨tw_640, tw_641, tw_642, tw_8, tw_643⟩, ⟨by decide, by decide, by decide +kernel⟩, by decide⟩
theorem cl_X8_270 : CLS "BloodPrice" 270 yJ6_bitCount_0f7a4 cJ6_bitCount_0f7a4 1 (some .int) 1 := ⟨⟨tw_672, tw_673, tw_12, tw_674⟩, ⟨by decide, by decide, by decide +kernel⟩, by decide⟩
theorem cl_X8_278 : CLV "BloodPrice" 278 yX3_measureFrom cX3_measureFrom 4 none 1 := ⟨⟨tw_678, tw_509, tw_510, tw_3, tw_511⟩, ⟨by decide, by decide, by decide +kernel⟩, by decide⟩
theorem cl_X8_281 : CLV "BloodPrice" 281 yX8_maySwear cX8_maySwear 4 (some .boolean) 3 := ⟨⟨tw_679, tw_681, sel_X8_maySwear, tw_1, tw_682⟩, ⟨by decide, by decide, by decide +kernel⟩, by decide⟩
theorem cl_X8_284 : CLV "BloodPrice" 284 yX3_deadOn cX3_deadOn 3 (some .boolean) 2 := ⟨⟨tw_683, tw_684, tw_685, tw_3, tw_686⟩, ⟨by decide, by decide, by decide +kernel⟩, by decide⟩
theorem cl_X8_293 : CLV "BloodPrice" 293 yX3_pickSharers cX3_pickSharers 6 none 4 := ⟨⟨tw_699, tw_700, tw_701, tw_3, tw_702⟩, ⟨by decide, by decide, by decide +kernel⟩, by decide⟩
theorem cl_X8_300 : CLV "BloodPrice" 300 yX1_partOfDegree cX1_partOfDegree 4 (some .int) 2 := ⟨⟨tw_705, tw_706, tw_707, tw_8, tw_708⟩, ⟨by decide, by decide, by decide +kernel⟩, by decide⟩
theorem cl_X8_307 : CLV "BloodPrice" 307 yX0_dueIn cX0_dueIn 2 (some .int) 1 := ⟨⟨tw_741, tw_742, tw_743, tw_10, tw_744⟩, ⟨by decide, by decide, by decide +kernel⟩, by decide⟩
theorem cl_X8_310 : CLV "BloodPrice" 310 yX2_paid cX2_paid 6 (some .int) 3 := ⟨⟨tw_745, tw_746, tw_747, tw_6, tw_748⟩, ⟨by decide, by decide, by decide +kernel⟩, by decide⟩
theorem cl_X1_56 : CLV "BloodPrice$Law" 56 yX1_holds cX1_holds 7 (some .boolean) 3 := ⟨⟨tw_644, tw_646, sel_X1_holds, tw_8, tw_647⟩, ⟨by decide, by decide, by decide +kernel⟩, by decide⟩
theorem cl_X1_60 : CLS "BloodPrice$Law" 60 yX1_changed cX1_changed 3 (some .int) 3 := ⟨⟨tw_654, tw_655, tw_8, tw_656⟩, ⟨by decide, by decide, by decide +kernel⟩, by decide⟩
theorem cl_X1_65 : CLS "BloodPrice$Law" 65 yJ9_min_7cf53 cJ9_min_7cf53 2 (some .int) 2 := ⟨⟨tw_658, tw_659, tw_11, tw_660⟩, ⟨by decide, by decide, by decide +kernel⟩, by decide⟩
theorem cl_X1_71 : CLS "BloodPrice$Law" 71 yJ9_max_7cf53 cJ9_max_7cf53 2 (some .int) 2 := ⟨⟨tw_661, tw_662, tw_11, tw_663⟩, ⟨by decide, by decide, by decide +kernel⟩, by decide⟩
theorem cl_X1_74 : CLS "BloodPrice$Law" 74 yX1_operand cX1_operand 3 (some .int) 2 := ⟨⟨tw_648, tw_649, tw_8, tw_650⟩, ⟨by decide, by decide, by decide +kernel⟩, by decide⟩
theorem cl_X1_78 : CLS "BloodPrice$Law" 78 yX1_joined cX1_joined 3 (some .boolean) 3 := ⟨⟨tw_651, tw_652, tw_8, tw_653⟩, ⟨by decide, by decide, by decide +kernel⟩, by decide⟩
theorem cl_X3_35 : CLV "BloodPrice$People" 35 yX3_isThere cX3_isThere 2 (some .boolean) 1 := ⟨⟨tw_492, tw_493, tw_494, tw_3, tw_495⟩, ⟨by decide, by decide, by decide +kernel⟩, by decide⟩
theorem cl_X3_39 : CLV "BloodPrice$People" 39 yX3_measureFrom cX3_measureFrom 4 none 1 := ⟨⟨tw_508, tw_509, tw_510, tw_3, tw_511⟩, ⟨by decide, by decide, by decide +kernel⟩, by decide⟩
theorem cl_X3_43 : CLV "BloodPrice$People" 43 yX3_stepBetween cX3_stepBetween 4 none 3 := ⟨⟨tw_512, tw_514, sel_X3_stepBetween, tw_3, tw_515⟩, ⟨by decide, by decide, by decide +kernel⟩, by decide⟩
theorem cl_X3_50 : CLV "BloodPrice$People" 50 yX3_folkOf cX3_folkOf 2 (some .int) 1 := ⟨⟨tw_703, tw_624, tw_625, tw_3, tw_626⟩, ⟨by decide, by decide, by decide +kernel⟩, by decide⟩
theorem cl_X3_54 : CLV "BloodPrice$People" 54 yX3_deadOn cX3_deadOn 3 (some .boolean) 2 := ⟨⟨tw_704, tw_684, tw_685, tw_3, tw_686⟩, ⟨by decide, by decide, by decide +kernel⟩, by decide⟩
theorem cl_X4_35 : CLV "BloodPrice$Reader" 35 yX4_readHurt cX4_readHurt 4 (some .boolean) 0 := ⟨⟨tw_371, tw_373, sel_X4_readHurt, tw_9, tw_374⟩, ⟨by decide, by decide, by decide +kernel⟩, by decide⟩
theorem cl_X4_41 : CLV "BloodPrice$Reader" 41 yX4_readWhen cX4_readWhen 3 (some .boolean) 0 := ⟨⟨tw_410, tw_412, sel_X4_readWhen, tw_9, tw_413⟩, ⟨by decide, by decide, by decide +kernel⟩, by decide⟩
theorem cl_X4_46 : CLV "BloodPrice$Reader" 46 yX4_readShare cX4_readShare 5 (some .boolean) 0 := ⟨⟨tw_460, tw_462, sel_X4_readShare, tw_9, tw_463⟩, ⟨by decide, by decide, by decide +kernel⟩, by decide⟩
theorem cl_X4_51 : CLV "BloodPrice$Reader" 51 yX4_readNeed cX4_readNeed 1 (some .boolean) 0 := ⟨⟨tw_465, tw_467, sel_X4_readNeed, tw_9, tw_468⟩, ⟨by decide, by decide, by decide +kernel⟩, by decide⟩
theorem cl_X4_56 : CLV "BloodPrice$Reader" 56 yX4_readTerms cX4_readTerms 1 (some .boolean) 0 := ⟨⟨tw_471, tw_473, sel_X4_readTerms, tw_9, tw_474⟩, ⟨by decide, by decide, by decide +kernel⟩, by decide⟩
theorem cl_X4_59 : CLV "BloodPrice$Reader" 59 yX4_refuse cX4_refuse 2 (some .boolean) 1 := ⟨⟨tw_375, tw_377, sel_X4_refuse, tw_9, tw_378⟩, ⟨by decide, by decide, by decide +kernel⟩, by decide⟩
theorem cl_X4_68 : CLV "BloodPrice$Reader" 68 yX4_advance cX4_advance 1 none 0 := ⟨⟨tw_379, tw_381, sel_X4_advance, tw_9, tw_382⟩, ⟨by decide, by decide, by decide +kernel⟩, by decide⟩
theorem cl_X4_83 : CLV "BloodPrice$Reader" 83 yX4_readNumber cX4_readNumber 4 (some .int) 2 := ⟨⟨tw_395, tw_397, sel_X4_readNumber, tw_9, tw_398⟩, ⟨by decide, by decide, by decide +kernel⟩, by decide⟩
theorem cl_X4_89 : CLV "BloodPrice$Reader" 89 yX4_expect cX4_expect 3 (some .boolean) 1 := ⟨⟨tw_401, tw_403, sel_X4_expect, tw_9, tw_404⟩, ⟨by decide, by decide, by decide +kernel⟩, by decide⟩
theorem cl_X4_92 : CLV "BloodPrice$Reader" 92 yX1_addHurt cX1_addHurt 4 none 2 := ⟨⟨tw_405, tw_406, tw_407, tw_8, tw_408⟩, ⟨by decide, by decide, by decide +kernel⟩, by decide⟩
theorem cl_X4_99 : CLV "BloodPrice$Reader" 99 yX4_readEither cX4_readEither 4 (some .boolean) 1 := ⟨⟨tw_414, tw_416, sel_X4_readEither, tw_9, tw_417⟩, ⟨by decide, by decide, by decide +kernel⟩, by decide⟩
theorem cl_X4_104 : CLS "BloodPrice$Reader" 104 yX4_deedOf cX4_deedOf 2 (some .int) 1 := ⟨⟨tw_448, tw_449, tw_9, tw_450⟩, ⟨by decide, by decide, by decide +kernel⟩, by decide⟩
theorem cl_X4_108 : CLV "BloodPrice$Reader" 108 yX1_addWhen cX1_addWhen 3 none 2 := ⟨⟨tw_455, tw_456, tw_457, tw_8, tw_458⟩, ⟨by decide, by decide, by decide +kernel⟩, by decide⟩
theorem cl_X4_142 : CLV "BloodPrice$Reader" 142 yX4_readBoth cX4_readBoth 4 (some .boolean) 1 := ⟨⟨tw_418, tw_420, sel_X4_readBoth, tw_9, tw_421⟩, ⟨by decide, by decide, by decide +kernel⟩, by decide⟩
theorem cl_X4_147 : CLV "BloodPrice$Reader" 147 yX1_addStep cX1_addStep 2 none 1 := ⟨⟨tw_427, tw_428, tw_429, tw_8, tw_430⟩, ⟨by decide, by decide, by decide +kernel⟩, by decide⟩
theorem cl_X4_151 : CLV "BloodPrice$Reader" 151 yX4_readOne cX4_readOne 4 (some .boolean) 1 := ⟨⟨tw_422, tw_424, sel_X4_readOne, tw_9, tw_425⟩, ⟨by decide, by decide, by decide +kernel⟩, by decide⟩
theorem cl_X4_162 : CLV "BloodPrice$Reader" 162 yX4_readOperand cX4_readOperand 2 (some .boolean) 0 := ⟨⟨tw_433, tw_435, sel_X4_readOperand, tw_9, tw_436⟩, ⟨by decide, by decide, by decide +kernel⟩, by decide⟩
theorem cl_X4_165 : CLS "BloodPrice$Reader" 165 yX4_comparisonOf cX4_comparisonOf 2 (some .int) 1 := ⟨⟨tw_439, tw_440, tw_9, tw_441⟩, ⟨by decide, by decide, by decide +kernel⟩, by decide⟩
theorem cl_X5_23 : CLS "BloodPrice$Tokens" 23 yX5_sortOf cX5_sortOf 1 (some .int) 1 := ⟨⟨tw_232, tw_233, tw_2, tw_234⟩, ⟨by decide, by decide, by decide +kernel⟩, by decide⟩
theorem cl_X5_27 : CLV "BloodPrice$Tokens" 27 yX5_spoilLast cX5_spoilLast 1 none 0 := ⟨⟨tw_244, tw_246, sel_X5_spoilLast, tw_2, tw_247⟩, ⟨by decide, by decide, by decide +kernel⟩, by decide⟩
theorem cl_X5_30 : CLV "BloodPrice$Tokens" 30 yX5_lengthenLast cX5_lengthenLast 5 none 2 := ⟨⟨tw_248, tw_250, sel_X5_lengthenLast, tw_2, tw_251⟩, ⟨by decide, by decide, by decide +kernel⟩, by decide⟩
theorem cl_X5_34 : CLS "BloodPrice$Tokens" 34 yX5_firstOf cX5_firstOf 2 (some .long) 2 := ⟨⟨tw_254, tw_255, tw_2, tw_256⟩, ⟨by decide, by decide, by decide +kernel⟩, by decide⟩
theorem cl_X5_38 : CLV "BloodPrice$Tokens" 38 yX5_begin cX5_begin 4 none 2 := ⟨⟨tw_257, tw_259, sel_X5_begin, tw_2, tw_260⟩, ⟨by decide, by decide, by decide +kernel⟩, by decide⟩
theorem cl_L_9 : CLI "BloodPriceLaw" 9 yX8_init cX8_init 1 0 := ⟨⟨tw_15, tw_16, tw_1, tw_17⟩, rfl, ⟨by decide, by decide, by decide +kernel⟩, by decide⟩
theorem cl_L_12 : CLI "BloodPriceLaw" 12 yX9_init cX9_init 1 0 := ⟨⟨tw_755, tw_756, tw_7, tw_757⟩, rfl, ⟨by decide, by decide, by decide +kernel⟩, by decide⟩
theorem cl_L_13 : CLV "BloodPriceLaw" 13 yX8_feed cX8_feed 6 (some .int) 5 := ⟨⟨tw_205, tw_206, tw_207, tw_1, tw_208⟩, ⟨by decide, by decide, by decide +kernel⟩, by decide⟩
theorem cl_L_17 : CLV "BloodPriceLaw" 17 yX9_feed cX9_feed 8 (some .int) 5 := ⟨⟨tw_1263, tw_1264, tw_1265, tw_7, tw_1266⟩, ⟨by decide, by decide, by decide +kernel⟩, by decide⟩
theorem cl_L_18 : CLV "BloodPriceLaw" 18 yX8_end cX8_end 2 (some .int) 1 := ⟨⟨tw_213, tw_214, tw_215, tw_1, tw_216⟩, ⟨by decide, by decide, by decide +kernel⟩, by decide⟩
theorem cl_L_22 : CLV "BloodPriceLaw" 22 yX9_end cX9_end 2 (some .int) 1 := ⟨⟨tw_1267, tw_1268, tw_1269, tw_7, tw_1270⟩, ⟨by decide, by decide, by decide +kernel⟩, by decide⟩
theorem cl_L_23 : CLV "BloodPriceLaw" 23 yX8_law cX8_law 6 (some .int) 2 := ⟨⟨tw_217, tw_218, tw_219, tw_1, tw_220⟩, ⟨by decide, by decide, by decide +kernel⟩, by decide⟩
theorem cl_L_27 : CLV "BloodPriceLaw" 27 yX9_law cX9_law 4 (some .int) 2 := ⟨⟨tw_985, tw_986, tw_987, tw_7, tw_988⟩, ⟨by decide, by decide, by decide +kernel⟩, by decide⟩
theorem cl_L_28 : CLV "BloodPriceLaw" 28 yX8_fault cX8_fault 2 (some .int) 1 := ⟨⟨tw_476, tw_477, tw_478, tw_1, tw_479⟩, ⟨by decide, by decide, by decide +kernel⟩, by decide⟩
theorem cl_L_31 : CLV "BloodPriceLaw" 31 yX9_fault cX9_fault 2 (some .int) 1 := ⟨⟨tw_1111, tw_1112, tw_1113, tw_7, tw_1114⟩, ⟨by decide, by decide, by decide +kernel⟩, by decide⟩
theorem cl_L_32 : CLV "BloodPriceLaw" 32 yX8_lawOn cX8_lawOn 7 (some .int) 2 := ⟨⟨tw_480, tw_481, tw_482, tw_1, tw_483⟩, ⟨by decide, by decide, by decide +kernel⟩, by decide⟩
theorem cl_L_35 : CLV "BloodPriceLaw" 35 yX9_lawOn cX9_lawOn 6 (some .int) 2 := ⟨⟨tw_1115, tw_1116, tw_1117, tw_7, tw_1118⟩, ⟨by decide, by decide, by decide +kernel⟩, by decide⟩
theorem cl_L_36 : CLV "BloodPriceLaw" 36 yX8_person cX8_person 4 (some .int) 3 := ⟨⟨tw_484, tw_485, tw_486, tw_1, tw_487⟩, ⟨by decide, by decide, by decide +kernel⟩, by decide⟩
theorem cl_L_40 : CLV "BloodPriceLaw" 40 yX9_person cX9_person 4 (some .int) 3 := ⟨⟨tw_1123, tw_1124, tw_1125, tw_7, tw_1126⟩, ⟨by decide, by decide, by decide +kernel⟩, by decide⟩
theorem cl_L_41 : CLV "BloodPriceLaw" 41 yX8_degree cX8_degree 3 (some .int) 2 := ⟨⟨tw_500, tw_501, tw_502, tw_1, tw_503⟩, ⟨by decide, by decide, by decide +kernel⟩, by decide⟩
theorem cl_L_44 : CLV "BloodPriceLaw" 44 yX9_degree cX9_degree 5 (some .int) 2 := ⟨⟨tw_1127, tw_1128, tw_1129, tw_7, tw_1130⟩, ⟨by decide, by decide, by decide +kernel⟩, by decide⟩
theorem cl_L_45 : CLV "BloodPriceLaw" 45 yX8_rank cX8_rank 4 (some .int) 3 := ⟨⟨tw_516, tw_517, tw_518, tw_1, tw_519⟩, ⟨by decide, by decide, by decide +kernel⟩, by decide⟩
theorem cl_L_48 : CLV "BloodPriceLaw" 48 yX9_rank cX9_rank 4 (some .int) 3 := ⟨⟨tw_1139, tw_1140, tw_1141, tw_7, tw_1142⟩, ⟨by decide, by decide, by decide +kernel⟩, by decide⟩
theorem cl_L_49 : CLV "BloodPriceLaw" 49 yX8_ranked cX8_ranked 4 (some .int) 3 := ⟨⟨tw_525, tw_526, tw_527, tw_1, tw_528⟩, ⟨by decide, by decide, by decide +kernel⟩, by decide⟩
theorem cl_L_52 : CLV "BloodPriceLaw" 52 yX9_ranked cX9_ranked 6 (some .int) 3 := ⟨⟨tw_1143, tw_1144, tw_1145, tw_7, tw_1146⟩, ⟨by decide, by decide, by decide +kernel⟩, by decide⟩
theorem cl_L_53 : CLV "BloodPriceLaw" 53 yX8_dead cX8_dead 3 (some .boolean) 2 := ⟨⟨tw_533, tw_534, tw_535, tw_1, tw_536⟩, ⟨by decide, by decide, by decide +kernel⟩, by decide⟩
theorem cl_L_57 : CLV "BloodPriceLaw" 57 yX9_dead cX9_dead 3 (some .boolean) 2 := ⟨⟨tw_1147, tw_1148, tw_1149, tw_7, tw_1150⟩, ⟨by decide, by decide, by decide +kernel⟩, by decide⟩
theorem cl_L_58 : CLV "BloodPriceLaw" 58 yX8_truce cX8_truce 5 (some .int) 4 := ⟨⟨tw_541, tw_542, tw_543, tw_1, tw_544⟩, ⟨by decide, by decide, by decide +kernel⟩, by decide⟩
theorem cl_L_62 : CLV "BloodPriceLaw" 62 yX9_truce cX9_truce 5 (some .int) 4 := ⟨⟨tw_1151, tw_1152, tw_1153, tw_7, tw_1154⟩, ⟨by decide, by decide, by decide +kernel⟩, by decide⟩
theorem cl_L_63 : CLV "BloodPriceLaw" 63 yX8_later cX8_later 2 (some .int) 1 := ⟨⟨tw_549, tw_550, tw_551, tw_1, tw_552⟩, ⟨by decide, by decide, by decide +kernel⟩, by decide⟩
theorem cl_L_66 : CLV "BloodPriceLaw" 66 yX9_later cX9_later 2 (some .int) 1 := ⟨⟨tw_1155, tw_1156, tw_1157, tw_7, tw_1158⟩, ⟨by decide, by decide, by decide +kernel⟩, by decide⟩
theorem cl_L_69 : CLV "BloodPriceLaw" 69 yX8_hurt cX8_hurt 8 (some .int) 6 := ⟨⟨tw_553, tw_554, tw_555, tw_1, tw_556⟩, ⟨by decide, by decide, by decide +kernel⟩, by decide⟩
theorem cl_L_73 : CLV "BloodPriceLaw" 73 yX9_hurt cX9_hurt 8 (some .int) 6 := ⟨⟨tw_1159, tw_1160, tw_1161, tw_7, tw_1162⟩, ⟨by decide, by decide, by decide +kernel⟩, by decide⟩
theorem cl_L_74 : CLV "BloodPriceLaw" 74 yX8_sum cX8_sum 4 (some .int) 2 := ⟨⟨tw_607, tw_608, tw_609, tw_1, tw_610⟩, ⟨by decide, by decide, by decide +kernel⟩, by decide⟩
theorem cl_L_77 : CLV "BloodPriceLaw" 77 yX9_sum cX9_sum 3 (some .int) 2 := ⟨⟨tw_1167, tw_1168, tw_1169, tw_7, tw_1170⟩, ⟨by decide, by decide, by decide +kernel⟩, by decide⟩
theorem cl_L_78 : CLV "BloodPriceLaw" 78 yX8_oath cX8_oath 5 (some .int) 2 := ⟨⟨tw_664, tw_665, tw_666, tw_1, tw_667⟩, ⟨by decide, by decide, by decide +kernel⟩, by decide⟩
theorem cl_L_81 : CLV "BloodPriceLaw" 81 yX9_oath cX9_oath 7 (some .int) 2 := ⟨⟨tw_1206, tw_1207, tw_1208, tw_7, tw_1209⟩, ⟨by decide, by decide, by decide +kernel⟩, by decide⟩
theorem cl_L_82 : CLV "BloodPriceLaw" 82 yX8_of cX8_of 4 (some .int) 2 := ⟨⟨tw_687, tw_688, tw_689, tw_1, tw_690⟩, ⟨by decide, by decide, by decide +kernel⟩, by decide⟩
theorem cl_L_85 : CLV "BloodPriceLaw" 85 yX9_of cX9_of 3 (some .int) 2 := ⟨⟨tw_1214, tw_1215, tw_1216, tw_7, tw_1217⟩, ⟨by decide, by decide, by decide +kernel⟩, by decide⟩
theorem cl_L_86 : CLV "BloodPriceLaw" 86 yX8_pays cX8_pays 5 (some .int) 3 := ⟨⟨tw_691, tw_692, tw_693, tw_1, tw_694⟩, ⟨by decide, by decide, by decide +kernel⟩, by decide⟩
theorem cl_L_89 : CLV "BloodPriceLaw" 89 yX9_pays cX9_pays 5 (some .int) 3 := ⟨⟨tw_1218, tw_1219, tw_1220, tw_7, tw_1221⟩, ⟨by decide, by decide, by decide +kernel⟩, by decide⟩
theorem cl_L_90 : CLV "BloodPriceLaw" 90 yX8_has cX8_has 5 (some .int) 3 := ⟨⟨tw_709, tw_710, tw_711, tw_1, tw_712⟩, ⟨by decide, by decide, by decide +kernel⟩, by decide⟩
theorem cl_L_93 : CLV "BloodPriceLaw" 93 yX9_has cX9_has 5 (some .int) 3 := ⟨⟨tw_1230, tw_1231, tw_1232, tw_7, tw_1233⟩, ⟨by decide, by decide, by decide +kernel⟩, by decide⟩
theorem cl_L_94 : CLV "BloodPriceLaw" 94 yX8_judge cX8_judge 5 (some .int) 1 := ⟨⟨tw_713, tw_714, tw_715, tw_1, tw_716⟩, ⟨by decide, by decide, by decide +kernel⟩, by decide⟩
theorem cl_L_97 : CLV "BloodPriceLaw" 97 yX9_judge cX9_judge 3 (some .int) 1 := ⟨⟨tw_1234, tw_1235, tw_1236, tw_7, tw_1237⟩, ⟨by decide, by decide, by decide +kernel⟩, by decide⟩
theorem cl_L_98 : CLV "BloodPriceLaw" 98 yX8_rate cX8_rate 3 (some .boolean) 2 := ⟨⟨tw_717, tw_718, tw_719, tw_1, tw_720⟩, ⟨by decide, by decide, by decide +kernel⟩, by decide⟩
theorem cl_L_101 : CLV "BloodPriceLaw" 101 yX9_rate cX9_rate 3 (some .boolean) 2 := ⟨⟨tw_1238, tw_1239, tw_1240, tw_7, tw_1241⟩, ⟨by decide, by decide, by decide +kernel⟩, by decide⟩
theorem cl_L_102 : CLV "BloodPriceLaw" 102 yX8_pay cX8_pay 5 (some .int) 3 := ⟨⟨tw_724, tw_725, tw_726, tw_1, tw_727⟩, ⟨by decide, by decide, by decide +kernel⟩, by decide⟩
theorem cl_L_105 : CLV "BloodPriceLaw" 105 yX9_pay cX9_pay 4 (some .int) 3 := ⟨⟨tw_1242, tw_1243, tw_1244, tw_7, tw_1245⟩, ⟨by decide, by decide, by decide +kernel⟩, by decide⟩
theorem cl_L_106 : CLV "BloodPriceLaw" 106 yX8_owed cX8_owed 4 (some .int) 2 := ⟨⟨tw_732, tw_733, tw_734, tw_1, tw_735⟩, ⟨by decide, by decide, by decide +kernel⟩, by decide⟩
theorem cl_L_109 : CLV "BloodPriceLaw" 109 yX9_owed cX9_owed 9 (some .int) 2 := ⟨⟨tw_1246, tw_1247, tw_1248, tw_7, tw_1249⟩, ⟨by decide, by decide, by decide +kernel⟩, by decide⟩
theorem cl_L_110 : CLV "BloodPriceLaw" 110 yX8_about cX8_about 2 (some .int) 1 := ⟨⟨tw_749, tw_750, tw_751, tw_1, tw_752⟩, ⟨by decide, by decide, by decide +kernel⟩, by decide⟩
theorem cl_L_113 : CLV "BloodPriceLaw" 113 yX9_about cX9_about 2 (some .int) 1 := ⟨⟨tw_1259, tw_1260, tw_1261, tw_7, tw_1262⟩, ⟨by decide, by decide, by decide +kernel⟩, by decide⟩
theorem cl_X9_196 : CLS "BloodPriceModel" 196 yX9_meaning cX9_meaning 2 (some .int) 1 := ⟨⟨tw_1004, tw_1005, tw_7, tw_1006⟩, ⟨by decide, by decide, by decide +kernel⟩, by decide⟩
theorem cl_X9_234 : CLV "BloodPriceModel" 234 yX9_sign cX9_sign 2 (some .int) 1 := ⟨⟨tw_994, tw_996, sel_X9_sign, tw_7, tw_997⟩, ⟨by decide, by decide, by decide +kernel⟩, by decide⟩
theorem cl_X9_241 : CLS "BloodPriceModel" 241 yX9_isLetter cX9_isLetter 1 (some .boolean) 1 := ⟨⟨tw_998, tw_999, tw_7, tw_1000⟩, ⟨by decide, by decide, by decide +kernel⟩, by decide⟩
theorem cl_X9_249 : CLS "BloodPriceModel" 249 yX9_isKept cX9_isKept 2 (some .boolean) 1 := ⟨⟨tw_1001, tw_1002, tw_7, tw_1003⟩, ⟨by decide, by decide, by decide +kernel⟩, by decide⟩
theorem cl_X9_253 : CLS "BloodPriceModel" 253 yX9_isDigit cX9_isDigit 1 (some .boolean) 1 := ⟨⟨tw_1028, tw_1029, tw_7, tw_1030⟩, ⟨by decide, by decide, by decide +kernel⟩, by decide⟩
theorem cl_X9_259 : CLV "BloodPriceModel" 259 yX9_fails cX9_fails 3 none 2 := ⟨⟨tw_1043, tw_1045, sel_X9_fails, tw_7, tw_1046⟩, ⟨by decide, by decide, by decide +kernel⟩, by decide⟩
theorem cl_X9_263 : CLV "BloodPriceModel" 263 yX9_isWord cX9_isWord 3 (some .boolean) 1 := ⟨⟨tw_1079, tw_1081, sel_X9_isWord, tw_7, tw_1082⟩, ⟨by decide, by decide, by decide +kernel⟩, by decide⟩
theorem cl_X9_266 : CLV "BloodPriceModel" 266 yX9_next cX9_next 3 none 0 := ⟨⟨tw_990, tw_992, sel_X9_next, tw_7, tw_993⟩, ⟨by decide, by decide, by decide +kernel⟩, by decide⟩
theorem cl_X9_269 : CLV "BloodPriceModel" 269 yX9_wrong cX9_wrong 1 none 0 := ⟨⟨tw_1039, tw_1041, sel_X9_wrong, tw_7, tw_1042⟩, ⟨by decide, by decide, by decide +kernel⟩, by decide⟩
theorem cl_X9_272 : CLV "BloodPriceModel" 272 yX9_isGood cX9_isGood 1 (some .boolean) 0 := ⟨⟨tw_1031, tw_1033, sel_X9_isGood, tw_7, tw_1034⟩, ⟨by decide, by decide, by decide +kernel⟩, by decide⟩
theorem cl_X9_292 : CLV "BloodPriceModel" 292 yX9_readLine cX9_readLine 4 none 0 := ⟨⟨tw_1035, tw_1037, sel_X9_readLine, tw_7, tw_1038⟩, ⟨by decide, by decide, by decide +kernel⟩, by decide⟩
theorem cl_X9_295 : CLV "BloodPriceModel" 295 yX9_readHurt cX9_readHurt 2 none 0 := ⟨⟨tw_1047, tw_1049, sel_X9_readHurt, tw_7, tw_1050⟩, ⟨by decide, by decide, by decide +kernel⟩, by decide⟩
theorem cl_X9_298 : CLV "BloodPriceModel" 298 yX9_readWhen cX9_readWhen 2 none 0 := ⟨⟨tw_1059, tw_1061, sel_X9_readWhen, tw_7, tw_1062⟩, ⟨by decide, by decide, by decide +kernel⟩, by decide⟩
theorem cl_X9_301 : CLV "BloodPriceModel" 301 yX9_readShare cX9_readShare 4 none 0 := ⟨⟨tw_1099, tw_1101, sel_X9_readShare, tw_7, tw_1102⟩, ⟨by decide, by decide, by decide +kernel⟩, by decide⟩
theorem cl_X9_304 : CLV "BloodPriceModel" 304 yX9_readNeed cX9_readNeed 1 none 0 := ⟨⟨tw_1103, tw_1105, sel_X9_readNeed, tw_7, tw_1106⟩, ⟨by decide, by decide, by decide +kernel⟩, by decide⟩
theorem cl_X9_307 : CLV "BloodPriceModel" 307 yX9_readTerms cX9_readTerms 1 none 0 := ⟨⟨tw_1107, tw_1109, sel_X9_readTerms, tw_7, tw_1110⟩, ⟨by decide, by decide, by decide +kernel⟩, by decide⟩
theorem cl_X9_310 : CLV "BloodPriceModel" 310 yX9_is cX9_is 2 (some .boolean) 1 := ⟨⟨tw_1075, tw_1077, sel_X9_is, tw_7, tw_1078⟩, ⟨by decide, by decide, by decide +kernel⟩, by decide⟩
theorem cl_X9_313 : CLV "BloodPriceModel" 313 yX9_hurtOf cX9_hurtOf 5 (some .int) 2 := ⟨⟨tw_1051, tw_1053, sel_X9_hurtOf, tw_7, tw_1054⟩, ⟨by decide, by decide, by decide +kernel⟩, by decide⟩
theorem cl_X9_317 : CLV "BloodPriceModel" 317 yX9_numeral cX9_numeral 4 (some .int) 2 := ⟨⟨tw_1055, tw_1057, sel_X9_numeral, tw_7, tw_1058⟩, ⟨by decide, by decide, by decide +kernel⟩, by decide⟩
theorem cl_X9_321 : CLV "BloodPriceModel" 321 yX9_mustWord cX9_mustWord 3 none 1 := ⟨⟨tw_1095, tw_1097, sel_X9_mustWord, tw_7, tw_1098⟩, ⟨by decide, by decide, by decide +kernel⟩, by decide⟩
theorem cl_X9_325 : CLV "BloodPriceModel" 325 yX9_e cX9_e 2 none 0 := ⟨⟨tw_1063, tw_1065, sel_X9_e, tw_7, tw_1066⟩, ⟨by decide, by decide, by decide +kernel⟩, by decide⟩
theorem cl_X9_334 : CLV "BloodPriceModel" 334 yX9_pile cX9_pile 2 none 1 := ⟨⟨tw_1067, tw_1069, sel_X9_pile, tw_7, tw_1070⟩, ⟨by decide, by decide, by decide +kernel⟩, by decide⟩
theorem cl_X9_338 : CLV "BloodPriceModel" 338 yX9_one cX9_one 2 (some .boolean) 0 := ⟨⟨tw_1071, tw_1073, sel_X9_one, tw_7, tw_1074⟩, ⟨by decide, by decide, by decide +kernel⟩, by decide⟩
theorem cl_X9_341 : CLV "BloodPriceModel" 341 yX9_behind cX9_behind 2 (some .boolean) 0 := ⟨⟨tw_1091, tw_1093, sel_X9_behind, tw_7, tw_1094⟩, ⟨by decide, by decide, by decide +kernel⟩, by decide⟩
theorem cl_X9_344 : CLV "BloodPriceModel" 344 yX9_side cX9_side 2 none 0 := ⟨⟨tw_1083, tw_1085, sel_X9_side, tw_7, tw_1086⟩, ⟨by decide, by decide, by decide +kernel⟩, by decide⟩
theorem cl_X9_347 : CLV "BloodPriceModel" 347 yX9_put cX9_put 3 none 2 := ⟨⟨tw_1087, tw_1089, sel_X9_put, tw_7, tw_1090⟩, ⟨by decide, by decide, by decide +kernel⟩, by decide⟩
theorem cl_X9_350 : CLV "BloodPriceModel" 350 yX9_lawFor cX9_lawFor 5 (some .int) 2 := ⟨⟨tw_1119, tw_1121, sel_X9_lawFor, tw_7, tw_1122⟩, ⟨by decide, by decide, by decide +kernel⟩, by decide⟩
theorem cl_X9_356 : CLV "BloodPriceModel" 356 yX9_isPerson cX9_isPerson 2 (some .boolean) 1 := ⟨⟨tw_1131, tw_1133, sel_X9_isPerson, tw_7, tw_1134⟩, ⟨by decide, by decide, by decide +kernel⟩, by decide⟩
theorem cl_X9_359 : CLV "BloodPriceModel" 359 yX9_wider cX9_wider 5 (some .int) 1 := ⟨⟨tw_1135, tw_1137, sel_X9_wider, tw_7, tw_1138⟩, ⟨by decide, by decide, by decide +kernel⟩, by decide⟩
theorem cl_X9_376 : CLS "BloodPriceModel" 376 yX9_isName cX9_isName 5 (some .boolean) 1 := ⟨⟨tw_1163, tw_1164, tw_7, tw_1165⟩, ⟨by decide, by decide, by decide +kernel⟩, by decide⟩
theorem cl_X9_379 : CLS "BloodPriceModel" 379 yX9_two cX9_two 3 (some .boolean) 3 := ⟨⟨tw_1197, tw_1198, tw_7, tw_1199⟩, ⟨by decide, by decide, by decide +kernel⟩, by decide⟩
theorem cl_X9_386 : CLV "BloodPriceModel" 386 yX9_lawOf cX9_lawOf 2 (some .int) 1 := ⟨⟨tw_1183, tw_1185, sel_X9_lawOf, tw_7, tw_1186⟩, ⟨by decide, by decide, by decide +kernel⟩, by decide⟩
theorem cl_X9_389 : CLV "BloodPriceModel" 389 yX9_degree cX9_degree 5 (some .int) 2 := ⟨⟨tw_1187, tw_1128, tw_1129, tw_7, tw_1130⟩, ⟨by decide, by decide, by decide +kernel⟩, by decide⟩
theorem cl_X9_392 : CLV "BloodPriceModel" 392 yX9_ranked cX9_ranked 6 (some .int) 3 := ⟨⟨tw_1188, tw_1144, tw_1145, tw_7, tw_1146⟩, ⟨by decide, by decide, by decide +kernel⟩, by decide⟩
theorem cl_X9_396 : CLV "BloodPriceModel" 396 yX9_isTruce cX9_isTruce 5 (some .boolean) 3 := ⟨⟨tw_1189, tw_1191, sel_X9_isTruce, tw_7, tw_1192⟩, ⟨by decide, by decide, by decide +kernel⟩, by decide⟩
theorem cl_X9_399 : CLV "BloodPriceModel" 399 yX9_work cX9_work 6 (some .int) 2 := ⟨⟨tw_1193, tw_1195, sel_X9_work, tw_7, tw_1196⟩, ⟨by decide, by decide, by decide +kernel⟩, by decide⟩
theorem cl_X9_404 : CLS "BloodPriceModel" 404 yX9_bounded cX9_bounded 2 (some .int) 1 := ⟨⟨tw_1201, tw_1202, tw_7, tw_1203⟩, ⟨by decide, by decide, by decide +kernel⟩, by decide⟩
theorem cl_X9_407 : CLV "BloodPriceModel" 407 yX9_price cX9_price 8 (some .int) 2 := ⟨⟨tw_1179, tw_1181, sel_X9_price, tw_7, tw_1182⟩, ⟨by decide, by decide, by decide +kernel⟩, by decide⟩
theorem cl_X9_410 : CLV "BloodPriceModel" 410 yX9_isCase cX9_isCase 2 (some .boolean) 1 := ⟨⟨tw_1171, tw_1173, sel_X9_isCase, tw_7, tw_1174⟩, ⟨by decide, by decide, by decide +kernel⟩, by decide⟩
theorem cl_X9_413 : CLV "BloodPriceModel" 413 yX9_sumOf cX9_sumOf 4 (some .int) 2 := ⟨⟨tw_1175, tw_1177, sel_X9_sumOf, tw_7, tw_1178⟩, ⟨by decide, by decide, by decide +kernel⟩, by decide⟩
theorem cl_X9_416 : CLV "BloodPriceModel" 416 yX9_isDead cX9_isDead 3 (some .boolean) 2 := ⟨⟨tw_1210, tw_1212, sel_X9_isDead, tw_7, tw_1213⟩, ⟨by decide, by decide, by decide +kernel⟩, by decide⟩
theorem cl_X9_420 : CLV "BloodPriceModel" 420 yX9_isOf cX9_isOf 6 (some .boolean) 5 := ⟨⟨tw_1226, tw_1228, sel_X9_isOf, tw_7, tw_1229⟩, ⟨by decide, by decide, by decide +kernel⟩, by decide⟩
theorem cl_X9_424 : CLV "BloodPriceModel" 424 yX9_part cX9_part 13 (some .int) 5 := ⟨⟨tw_1222, tw_1224, sel_X9_part, tw_7, tw_1225⟩, ⟨by decide, by decide, by decide +kernel⟩, by decide⟩
theorem cl_X9_435 : CLV "BloodPriceModel" 435 yX9_termOf cX9_termOf 3 (some .int) 2 := ⟨⟨tw_1251, tw_1253, sel_X9_termOf, tw_7, tw_1254⟩, ⟨by decide, by decide, by decide +kernel⟩, by decide⟩
theorem cl_X9_438 : CLV "BloodPriceModel" 438 yX9_paidBy cX9_paidBy 5 (some .int) 2 := ⟨⟨tw_1255, tw_1257, sel_X9_paidBy, tw_7, tw_1258⟩, ⟨by decide, by decide, by decide +kernel⟩, by decide⟩
theorem cl_X8_15 : CLIN "BloodPrice" 15 yX5_init cX5_init 1 0 := ⟨⟨List.mem_of_getElem? (i := 0) rfl, tw_24, tw_2, tw_25⟩, rfl, ⟨by decide, by decide, by decide +kernel⟩, by decide⟩
theorem cl_X8_36 : CLIN "BloodPrice" 36 yX3_init cX3_init 1 0 := ⟨⟨List.mem_of_getElem? (i := 1) rfl, tw_52, tw_3, tw_53⟩, rfl, ⟨by decide, by decide, by decide +kernel⟩, by decide⟩
theorem cl_X8_43 : CLIN "BloodPrice" 43 yX6_init cX6_init 1 0 := ⟨⟨List.mem_of_getElem? (i := 2) rfl, tw_88, tw_4, tw_89⟩, rfl, ⟨by decide, by decide, by decide +kernel⟩, by decide⟩
theorem cl_X8_50 : CLIN "BloodPrice" 50 yX7_init cX7_init 1 0 := ⟨⟨List.mem_of_getElem? (i := 3) rfl, tw_111, tw_5, tw_112⟩, rfl, ⟨by decide, by decide, by decide +kernel⟩, by decide⟩
theorem cl_X8_63 : CLIN "BloodPrice" 63 yX2_init cX2_init 1 0 := ⟨⟨List.mem_of_getElem? (i := 4) rfl, tw_136, tw_6, tw_137⟩, rfl, ⟨by decide, by decide, by decide +kernel⟩, by decide⟩
theorem cl_X5_42 : CLSN "BloodPrice$Tokens" 42 yX8_isLetter cX8_isLetter 1 (some .boolean) 1 := ⟨⟨List.mem_of_getElem? (i := 5) rfl, tw_236, tw_1, tw_237⟩, ⟨by decide, by decide, by decide +kernel⟩, by decide⟩
theorem cl_X4_71 : CLSN "BloodPrice$Reader" 71 yX8_isName cX8_isName 5 (some .boolean) 1 := ⟨⟨List.mem_of_getElem? (i := 6) rfl, tw_384, tw_1, tw_385⟩, ⟨by decide, by decide, by decide +kernel⟩, by decide⟩
theorem cl_X4_78 : CLSN "BloodPrice$Reader" 78 yX8_placeIn cX8_placeIn 4 (some .int) 2 := ⟨⟨List.mem_of_getElem? (i := 7) rfl, tw_391, tw_1, tw_392⟩, ⟨by decide, by decide, by decide +kernel⟩, by decide⟩
theorem na_boolean {κ : Kx} {γ : Gh} {cc : ByteArray} {nL D N pc cells slots : Nat} {own nm : String} {ret : Option FieldType} {σ : VH} {Q : State → Prop} {ls : List (Nat × Value)} {st : List Value} {n : Int32} (O : OK κ γ cc nL own D ret nm) (hn : n = nI N) (hNb : N < 100000) (hcell : cells + 1 ≤ κ.2.2.2.1.cells ∧ slots + N ≤ κ.2.2.2.1.slots) (d : decode cc pc = .ok (.newarray .boolean, 2)) (kk : Z κ γ nL (sN σ (20, N)) (cells + 1) (slots + N) Q (pc + 2) ls (.ref (hN σ) :: st)) : Z κ γ nL σ cells slots Q pc ls (.int n :: st) := z_newa (kd := 20) (t0 := 0) (ty := .boolean) (atype := .boolean) O ⟨by decide, by decide⟩ rfl rfl tw_84 rfl (fun U cA h => h) hn hNb (by decide) hcell d kk
theorem na_byte {κ : Kx} {γ : Gh} {cc : ByteArray} {nL D N pc cells slots : Nat} {own nm : String} {ret : Option FieldType} {σ : VH} {Q : State → Prop} {ls : List (Nat × Value)} {st : List Value} {n : Int32} (O : OK κ γ cc nL own D ret nm) (hn : n = nI N) (hNb : N < 100000) (hcell : cells + 1 ≤ κ.2.2.2.1.cells ∧ slots + N ≤ κ.2.2.2.1.slots) (d : decode cc pc = .ok (.newarray .byte, 2)) (kk : Z κ γ nL (sN σ (21, N)) (cells + 1) (slots + N) Q (pc + 2) ls (.ref (hN σ) :: st)) : Z κ γ nL σ cells slots Q pc ls (.int n :: st) := z_newa (kd := 21) (t0 := 1) (ty := .byte) (atype := .byte) O ⟨by decide, by decide⟩ rfl rfl tw_44 rfl (fun U cA h => h) hn hNb (by decide) hcell d kk
theorem na_int {κ : Kx} {γ : Gh} {cc : ByteArray} {nL D N pc cells slots : Nat} {own nm : String} {ret : Option FieldType} {σ : VH} {Q : State → Prop} {ls : List (Nat × Value)} {st : List Value} {n : Int32} (O : OK κ γ cc nL own D ret nm) (hn : n = nI N) (hNb : N < 100000) (hcell : cells + 1 ≤ κ.2.2.2.1.cells ∧ slots + N ≤ κ.2.2.2.1.slots) (d : decode cc pc = .ok (.newarray .int, 2)) (kk : Z κ γ nL (sN σ (22, N)) (cells + 1) (slots + N) Q (pc + 2) ls (.ref (hN σ) :: st)) : Z κ γ nL σ cells slots Q pc ls (.int n :: st) := z_newa (kd := 22) (t0 := 2) (ty := .int) (atype := .int) O ⟨by decide, by decide⟩ rfl rfl tw_46 rfl (fun U cA h => h) hn hNb (by decide) hcell d kk
theorem na_long {κ : Kx} {γ : Gh} {cc : ByteArray} {nL D N pc cells slots : Nat} {own nm : String} {ret : Option FieldType} {σ : VH} {Q : State → Prop} {ls : List (Nat × Value)} {st : List Value} {n : Int32} (O : OK κ γ cc nL own D ret nm) (hn : n = nI N) (hNb : N < 100000) (hcell : cells + 1 ≤ κ.2.2.2.1.cells ∧ slots + N ≤ κ.2.2.2.1.slots) (d : decode cc pc = .ok (.newarray .long, 2)) (kk : Z κ γ nL (sN σ (23, N)) (cells + 1) (slots + N) Q (pc + 2) ls (.ref (hN σ) :: st)) : Z κ γ nL σ cells slots Q pc ls (.int n :: st) := z_newa (kd := 23) (t0 := 3) (ty := .long) (atype := .long) O ⟨by decide, by decide⟩ rfl rfl tw_45 rfl (fun U cA h => h) hn hNb (by decide) hcell d kk
