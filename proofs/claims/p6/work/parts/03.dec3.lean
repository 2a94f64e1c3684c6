theorem dX9_numeral_65 : decode cX9_numeral 65 = .ok (.aload_n 0, 1) := by decide +kernel
theorem dX9_numeral_66 : decode cX9_numeral 66 = .ok (.invokevirtual 266, 3) := by decide +kernel
theorem dX9_numeral_69 : decode cX9_numeral 69 = .ok (.iload_n 3, 1) := by decide +kernel
theorem dX9_numeral_70 : decode cX9_numeral 70 = .ok (.ireturn, 1) := by decide +kernel
theorem dX9_law_0 : decode cX9_law 0 = .ok (.iload_n 1, 1) := by decide +kernel
theorem dX9_law_1 : decode cX9_law 1 = .ok (.ifCond .lt 29, 3) := by decide +kernel
theorem dX9_law_4 : decode cX9_law 4 = .ok (.iload_n 1, 1) := by decide +kernel
theorem dX9_law_5 : decode cX9_law 5 = .ok (.iconst 4, 1) := by decide +kernel
theorem dX9_law_6 : decode cX9_law 6 = .ok (.if_icmp .ge 24, 3) := by decide +kernel
theorem dX9_law_9 : decode cX9_law 9 = .ok (.iload_n 2, 1) := by decide +kernel
theorem dX9_law_10 : decode cX9_law 10 = .ok (.ifCond .lt 20, 3) := by decide +kernel
theorem dX9_law_13 : decode cX9_law 13 = .ok (.iload_n 2, 1) := by decide +kernel
theorem dX9_law_14 : decode cX9_law 14 = .ok (.ldc_w 276, 3) := by decide +kernel
theorem dX9_law_17 : decode cX9_law 17 = .ok (.if_icmp .gt 13, 3) := by decide +kernel
theorem dX9_law_20 : decode cX9_law 20 = .ok (.aload_n 0, 1) := by decide +kernel
theorem dX9_law_21 : decode cX9_law 21 = .ok (.getfield 27, 3) := by decide +kernel
theorem dX9_law_24 : decode cX9_law 24 = .ok (.iload_n 1, 1) := by decide +kernel
theorem dX9_law_25 : decode cX9_law 25 = .ok (.iaload, 1) := by decide +kernel
theorem dX9_law_26 : decode cX9_law 26 = .ok (.iconst 4, 1) := by decide +kernel
theorem dX9_law_27 : decode cX9_law 27 = .ok (.if_icmp .ne 6, 3) := by decide +kernel
theorem dX9_law_30 : decode cX9_law 30 = .ok (.bipush (-2), 2) := by decide +kernel
theorem dX9_law_32 : decode cX9_law 32 = .ok (.ireturn, 1) := by decide +kernel
theorem dX9_law_33 : decode cX9_law 33 = .ok (.aload_n 0, 1) := by decide +kernel
theorem dX9_law_34 : decode cX9_law 34 = .ok (.iconst 0, 1) := by decide +kernel
theorem dX9_law_35 : decode cX9_law 35 = .ok (.putfield 179, 3) := by decide +kernel
theorem dX9_law_38 : decode cX9_law 38 = .ok (.aload_n 0, 1) := by decide +kernel
theorem dX9_law_39 : decode cX9_law 39 = .ok (.iconst (-1), 1) := by decide +kernel
theorem dX9_law_40 : decode cX9_law 40 = .ok (.putfield 16, 3) := by decide +kernel
theorem dX9_law_43 : decode cX9_law 43 = .ok (.aload_n 0, 1) := by decide +kernel
theorem dX9_law_44 : decode cX9_law 44 = .ok (.aload_n 0, 1) := by decide +kernel
theorem dX9_law_45 : decode cX9_law 45 = .ok (.getfield 277, 3) := by decide +kernel
theorem dX9_law_48 : decode cX9_law 48 = .ok (.putfield 176, 3) := by decide +kernel
theorem dX9_law_51 : decode cX9_law 51 = .ok (.iconst 0, 1) := by decide +kernel
theorem dX9_law_52 : decode cX9_law 52 = .ok (.istore_n 3, 1) := by decide +kernel
theorem dX9_law_53 : decode cX9_law 53 = .ok (.iload_n 3, 1) := by decide +kernel
theorem dX9_law_54 : decode cX9_law 54 = .ok (.aload_n 0, 1) := by decide +kernel
theorem dX9_law_55 : decode cX9_law 55 = .ok (.getfield 176, 3) := by decide +kernel
theorem dX9_law_58 : decode cX9_law 58 = .ok (.if_icmp .ge 21, 3) := by decide +kernel
theorem dX9_law_61 : decode cX9_law 61 = .ok (.aload_n 0, 1) := by decide +kernel
theorem dX9_law_62 : decode cX9_law 62 = .ok (.getfield 13, 3) := by decide +kernel
theorem dX9_law_65 : decode cX9_law 65 = .ok (.iload_n 3, 1) := by decide +kernel
theorem dX9_law_66 : decode cX9_law 66 = .ok (.aload_n 0, 1) := by decide +kernel
theorem dX9_law_67 : decode cX9_law 67 = .ok (.getfield 7, 3) := by decide +kernel
theorem dX9_law_70 : decode cX9_law 70 = .ok (.iload_n 3, 1) := by decide +kernel
theorem dX9_law_71 : decode cX9_law 71 = .ok (.baload, 1) := by decide +kernel
theorem dX9_law_72 : decode cX9_law 72 = .ok (.bastore, 1) := by decide +kernel
theorem dX9_law_73 : decode cX9_law 73 = .ok (.iinc 3 1, 3) := by decide +kernel
theorem dX9_law_76 : decode cX9_law 76 = .ok (.goto (-23), 3) := by decide +kernel
theorem dX9_law_79 : decode cX9_law 79 = .ok (.aload_n 0, 1) := by decide +kernel
theorem dX9_law_80 : decode cX9_law 80 = .ok (.iconst 0, 1) := by decide +kernel
theorem dX9_law_81 : decode cX9_law 81 = .ok (.putfield 277, 3) := by decide +kernel
theorem dX9_law_84 : decode cX9_law 84 = .ok (.aload_n 0, 1) := by decide +kernel
theorem dX9_law_85 : decode cX9_law 85 = .ok (.iconst 0, 1) := by decide +kernel
theorem dX9_law_86 : decode cX9_law 86 = .ok (.putfield 228, 3) := by decide +kernel
theorem dX9_law_89 : decode cX9_law 89 = .ok (.aload_n 0, 1) := by decide +kernel
theorem dX9_law_90 : decode cX9_law 90 = .ok (.aload_n 0, 1) := by decide +kernel
theorem dX9_law_91 : decode cX9_law 91 = .ok (.getfield 280, 3) := by decide +kernel
theorem dX9_law_94 : decode cX9_law 94 = .ok (.putfield 283, 3) := by decide +kernel
theorem dX9_law_97 : decode cX9_law 97 = .ok (.aload_n 0, 1) := by decide +kernel
theorem dX9_law_98 : decode cX9_law 98 = .ok (.getfield 30, 3) := by decide +kernel
theorem dX9_law_101 : decode cX9_law 101 = .ok (.aload_n 0, 1) := by decide +kernel
theorem dX9_law_102 : decode cX9_law 102 = .ok (.getfield 283, 3) := by decide +kernel
theorem dX9_law_105 : decode cX9_law 105 = .ok (.iconst 0, 1) := by decide +kernel
theorem dX9_law_106 : decode cX9_law 106 = .ok (.iastore, 1) := by decide +kernel
theorem dX9_law_107 : decode cX9_law 107 = .ok (.aload_n 0, 1) := by decide +kernel
theorem dX9_law_108 : decode cX9_law 108 = .ok (.getfield 36, 3) := by decide +kernel
theorem dX9_law_111 : decode cX9_law 111 = .ok (.aload_n 0, 1) := by decide +kernel
theorem dX9_law_112 : decode cX9_law 112 = .ok (.getfield 283, 3) := by decide +kernel
theorem dX9_law_115 : decode cX9_law 115 = .ok (.iconst 0, 1) := by decide +kernel
theorem dX9_law_116 : decode cX9_law 116 = .ok (.iastore, 1) := by decide +kernel
theorem dX9_law_117 : decode cX9_law 117 = .ok (.aload_n 0, 1) := by decide +kernel
theorem dX9_law_118 : decode cX9_law 118 = .ok (.getfield 76, 3) := by decide +kernel
theorem dX9_law_121 : decode cX9_law 121 = .ok (.aload_n 0, 1) := by decide +kernel
theorem dX9_law_122 : decode cX9_law 122 = .ok (.getfield 283, 3) := by decide +kernel
theorem dX9_law_125 : decode cX9_law 125 = .ok (.iconst 0, 1) := by decide +kernel
theorem dX9_law_126 : decode cX9_law 126 = .ok (.bastore, 1) := by decide +kernel
theorem dX9_law_127 : decode cX9_law 127 = .ok (.aload_n 0, 1) := by decide +kernel
theorem dX9_law_128 : decode cX9_law 128 = .ok (.getfield 80, 3) := by decide +kernel
theorem dX9_law_131 : decode cX9_law 131 = .ok (.aload_n 0, 1) := by decide +kernel
theorem dX9_law_132 : decode cX9_law 132 = .ok (.getfield 283, 3) := by decide +kernel
theorem dX9_law_135 : decode cX9_law 135 = .ok (.iconst 0, 1) := by decide +kernel
theorem dX9_law_136 : decode cX9_law 136 = .ok (.bastore, 1) := by decide +kernel
theorem dX9_law_137 : decode cX9_law 137 = .ok (.aload_n 0, 1) := by decide +kernel
theorem dX9_law_138 : decode cX9_law 138 = .ok (.getfield 83, 3) := by decide +kernel
theorem dX9_law_141 : decode cX9_law 141 = .ok (.aload_n 0, 1) := by decide +kernel
theorem dX9_law_142 : decode cX9_law 142 = .ok (.getfield 283, 3) := by decide +kernel
theorem dX9_law_145 : decode cX9_law 145 = .ok (.iconst 0, 1) := by decide +kernel
theorem dX9_law_146 : decode cX9_law 146 = .ok (.bastore, 1) := by decide +kernel
theorem dX9_law_147 : decode cX9_law 147 = .ok (.iconst 0, 1) := by decide +kernel
theorem dX9_law_148 : decode cX9_law 148 = .ok (.istore_n 3, 1) := by decide +kernel
theorem dX9_law_149 : decode cX9_law 149 = .ok (.iload_n 3, 1) := by decide +kernel
theorem dX9_law_150 : decode cX9_law 150 = .ok (.iconst 4, 1) := by decide +kernel
theorem dX9_law_151 : decode cX9_law 151 = .ok (.if_icmp .ge 31, 3) := by decide +kernel
theorem dX9_law_154 : decode cX9_law 154 = .ok (.aload_n 0, 1) := by decide +kernel
theorem dX9_law_155 : decode cX9_law 155 = .ok (.getfield 51, 3) := by decide +kernel
theorem dX9_law_158 : decode cX9_law 158 = .ok (.iconst 4, 1) := by decide +kernel
theorem dX9_law_159 : decode cX9_law 159 = .ok (.aload_n 0, 1) := by decide +kernel
theorem dX9_law_160 : decode cX9_law 160 = .ok (.getfield 283, 3) := by decide +kernel
theorem dX9_law_163 : decode cX9_law 163 = .ok (.imul, 1) := by decide +kernel
theorem dX9_law_164 : decode cX9_law 164 = .ok (.iload_n 3, 1) := by decide +kernel
theorem dX9_law_165 : decode cX9_law 165 = .ok (.iadd, 1) := by decide +kernel
theorem dX9_law_166 : decode cX9_law 166 = .ok (.iload_n 3, 1) := by decide +kernel
theorem dX9_law_167 : decode cX9_law 167 = .ok (.ifCond .ne 7, 3) := by decide +kernel
theorem dX9_law_170 : decode cX9_law 170 = .ok (.iconst 1, 1) := by decide +kernel
theorem dX9_law_171 : decode cX9_law 171 = .ok (.goto 4, 3) := by decide +kernel
theorem dX9_law_174 : decode cX9_law 174 = .ok (.iconst 0, 1) := by decide +kernel
theorem dX9_law_175 : decode cX9_law 175 = .ok (.iastore, 1) := by decide +kernel
theorem dX9_law_176 : decode cX9_law 176 = .ok (.iinc 3 1, 3) := by decide +kernel
theorem dX9_law_179 : decode cX9_law 179 = .ok (.goto (-30), 3) := by decide +kernel
theorem dX9_law_182 : decode cX9_law 182 = .ok (.aload_n 0, 1) := by decide +kernel
theorem dX9_law_183 : decode cX9_law 183 = .ok (.getfield 54, 3) := by decide +kernel
theorem dX9_law_186 : decode cX9_law 186 = .ok (.aload_n 0, 1) := by decide +kernel
theorem dX9_law_187 : decode cX9_law 187 = .ok (.getfield 283, 3) := by decide +kernel
theorem dX9_law_190 : decode cX9_law 190 = .ok (.iconst 0, 1) := by decide +kernel
theorem dX9_law_191 : decode cX9_law 191 = .ok (.iastore, 1) := by decide +kernel
theorem dX9_law_192 : decode cX9_law 192 = .ok (.aload_n 0, 1) := by decide +kernel
theorem dX9_law_193 : decode cX9_law 193 = .ok (.getfield 57, 3) := by decide +kernel
theorem dX9_law_196 : decode cX9_law 196 = .ok (.aload_n 0, 1) := by decide +kernel
theorem dX9_law_197 : decode cX9_law 197 = .ok (.getfield 283, 3) := by decide +kernel
theorem dX9_law_200 : decode cX9_law 200 = .ok (.iconst 0, 1) := by decide +kernel
theorem dX9_law_201 : decode cX9_law 201 = .ok (.iastore, 1) := by decide +kernel
theorem dX9_law_202 : decode cX9_law 202 = .ok (.aload_n 0, 1) := by decide +kernel
theorem dX9_law_203 : decode cX9_law 203 = .ok (.getfield 60, 3) := by decide +kernel
theorem dX9_law_206 : decode cX9_law 206 = .ok (.aload_n 0, 1) := by decide +kernel
theorem dX9_law_207 : decode cX9_law 207 = .ok (.getfield 283, 3) := by decide +kernel
theorem dX9_law_210 : decode cX9_law 210 = .ok (.iconst 1, 1) := by decide +kernel
theorem dX9_law_211 : decode cX9_law 211 = .ok (.iastore, 1) := by decide +kernel
theorem dX9_law_212 : decode cX9_law 212 = .ok (.aload_n 0, 1) := by decide +kernel
theorem dX9_law_213 : decode cX9_law 213 = .ok (.getfield 63, 3) := by decide +kernel
theorem dX9_law_216 : decode cX9_law 216 = .ok (.aload_n 0, 1) := by decide +kernel
theorem dX9_law_217 : decode cX9_law 217 = .ok (.getfield 283, 3) := by decide +kernel
theorem dX9_law_220 : decode cX9_law 220 = .ok (.iconst 1, 1) := by decide +kernel
theorem dX9_law_221 : decode cX9_law 221 = .ok (.iastore, 1) := by decide +kernel
theorem dX9_law_222 : decode cX9_law 222 = .ok (.aload_n 0, 1) := by decide +kernel
theorem dX9_law_223 : decode cX9_law 223 = .ok (.iconst 0, 1) := by decide +kernel
theorem dX9_law_224 : decode cX9_law 224 = .ok (.putfield 286, 3) := by decide +kernel
theorem dX9_law_227 : decode cX9_law 227 = .ok (.aload_n 0, 1) := by decide +kernel
theorem dX9_law_228 : decode cX9_law 228 = .ok (.iconst 0, 1) := by decide +kernel
theorem dX9_law_229 : decode cX9_law 229 = .ok (.putfield 289, 3) := by decide +kernel
theorem dX9_law_232 : decode cX9_law 232 = .ok (.aload_n 0, 1) := by decide +kernel
theorem dX9_law_233 : decode cX9_law 233 = .ok (.invokevirtual 266, 3) := by decide +kernel
theorem dX9_law_236 : decode cX9_law 236 = .ok (.aload_n 0, 1) := by decide +kernel
theorem dX9_law_237 : decode cX9_law 237 = .ok (.invokevirtual 272, 3) := by decide +kernel
theorem dX9_law_240 : decode cX9_law 240 = .ok (.ifCond .eq 17, 3) := by decide +kernel
theorem dX9_law_243 : decode cX9_law 243 = .ok (.aload_n 0, 1) := by decide +kernel
theorem dX9_law_244 : decode cX9_law 244 = .ok (.getfield 238, 3) := by decide +kernel
theorem dX9_law_247 : decode cX9_law 247 = .ok (.ifCond .eq 10, 3) := by decide +kernel
theorem dX9_law_250 : decode cX9_law 250 = .ok (.aload_n 0, 1) := by decide +kernel
theorem dX9_law_251 : decode cX9_law 251 = .ok (.invokevirtual 292, 3) := by decide +kernel
theorem dX9_law_254 : decode cX9_law 254 = .ok (.goto (-18), 3) := by decide +kernel
theorem dX9_law_257 : decode cX9_law 257 = .ok (.aload_n 0, 1) := by decide +kernel
theorem dX9_law_258 : decode cX9_law 258 = .ok (.invokevirtual 272, 3) := by decide +kernel
theorem dX9_law_261 : decode cX9_law 261 = .ok (.ifCond .ne 5, 3) := by decide +kernel
theorem dX9_law_264 : decode cX9_law 264 = .ok (.iconst (-1), 1) := by decide +kernel
theorem dX9_law_265 : decode cX9_law 265 = .ok (.ireturn, 1) := by decide +kernel
theorem dX9_law_266 : decode cX9_law 266 = .ok (.aload_n 0, 1) := by decide +kernel
theorem dX9_law_267 : decode cX9_law 267 = .ok (.getfield 20, 3) := by decide +kernel
theorem dX9_law_270 : decode cX9_law 270 = .ok (.aload_n 0, 1) := by decide +kernel
theorem dX9_law_271 : decode cX9_law 271 = .ok (.getfield 280, 3) := by decide +kernel
theorem dX9_law_274 : decode cX9_law 274 = .ok (.iload_n 1, 1) := by decide +kernel
theorem dX9_law_275 : decode cX9_law 275 = .ok (.iastore, 1) := by decide +kernel
theorem dX9_law_276 : decode cX9_law 276 = .ok (.aload_n 0, 1) := by decide +kernel
theorem dX9_law_277 : decode cX9_law 277 = .ok (.getfield 24, 3) := by decide +kernel
theorem dX9_law_280 : decode cX9_law 280 = .ok (.aload_n 0, 1) := by decide +kernel
theorem dX9_law_281 : decode cX9_law 281 = .ok (.getfield 280, 3) := by decide +kernel
theorem dX9_law_284 : decode cX9_law 284 = .ok (.iload_n 2, 1) := by decide +kernel
theorem dX9_law_285 : decode cX9_law 285 = .ok (.iastore, 1) := by decide +kernel
theorem dX9_law_286 : decode cX9_law 286 = .ok (.aload_n 0, 1) := by decide +kernel
theorem dX9_law_287 : decode cX9_law 287 = .ok (.dup, 1) := by decide +kernel
theorem dX9_law_288 : decode cX9_law 288 = .ok (.getfield 280, 3) := by decide +kernel
theorem dX9_law_291 : decode cX9_law 291 = .ok (.iconst 1, 1) := by decide +kernel
theorem dX9_law_292 : decode cX9_law 292 = .ok (.iadd, 1) := by decide +kernel
theorem dX9_law_293 : decode cX9_law 293 = .ok (.putfield 280, 3) := by decide +kernel
theorem dX9_law_296 : decode cX9_law 296 = .ok (.aload_n 0, 1) := by decide +kernel
theorem dX9_law_297 : decode cX9_law 297 = .ok (.getfield 27, 3) := by decide +kernel
theorem dX9_law_300 : decode cX9_law 300 = .ok (.iload_n 1, 1) := by decide +kernel
theorem dX9_law_301 : decode cX9_law 301 = .ok (.dup2, 1) := by decide +kernel
theorem dX9_law_302 : decode cX9_law 302 = .ok (.iaload, 1) := by decide +kernel
theorem dX9_law_303 : decode cX9_law 303 = .ok (.iconst 1, 1) := by decide +kernel
theorem dX9_law_304 : decode cX9_law 304 = .ok (.iadd, 1) := by decide +kernel
theorem dX9_law_305 : decode cX9_law 305 = .ok (.iastore, 1) := by decide +kernel
theorem dX9_law_306 : decode cX9_law 306 = .ok (.aload_n 0, 1) := by decide +kernel
theorem dX9_law_307 : decode cX9_law 307 = .ok (.getfield 27, 3) := by decide +kernel
theorem dX9_law_310 : decode cX9_law 310 = .ok (.iload_n 1, 1) := by decide +kernel
theorem dX9_law_311 : decode cX9_law 311 = .ok (.iaload, 1) := by decide +kernel
theorem dX9_law_312 : decode cX9_law 312 = .ok (.ireturn, 1) := by decide +kernel
theorem dX9_readLine_0 : decode cX9_readLine 0 = .ok (.aload_n 0, 1) := by decide +kernel
theorem dX9_readLine_1 : decode cX9_readLine 1 = .ok (.getfield 238, 3) := by decide +kernel
theorem dX9_readLine_4 : decode cX9_readLine 4 = .ok (.iconst 3, 1) := by decide +kernel
theorem dX9_readLine_5 : decode cX9_readLine 5 = .ok (.if_icmp .ne 10, 3) := by decide +kernel
theorem dX9_readLine_8 : decode cX9_readLine 8 = .ok (.aload_n 0, 1) := by decide +kernel
theorem dX9_readLine_9 : decode cX9_readLine 9 = .ok (.getfield 245, 3) := by decide +kernel
theorem dX9_readLine_12 : decode cX9_readLine 12 = .ok (.goto 4, 3) := by decide +kernel
theorem dX9_readLine_15 : decode cX9_readLine 15 = .ok (.lconst 0, 1) := by decide +kernel
theorem dX9_readLine_16 : decode cX9_readLine 16 = .ok (.lstore_n 1, 1) := by decide +kernel
theorem dX9_readLine_17 : decode cX9_readLine 17 = .ok (.lload_n 1, 1) := by decide +kernel
theorem dX9_readLine_18 : decode cX9_readLine 18 = .ok (.ldc2_w 200, 3) := by decide +kernel
theorem dX9_readLine_21 : decode cX9_readLine 21 = .ok (.lcmp, 1) := by decide +kernel
theorem dX9_readLine_22 : decode cX9_readLine 22 = .ok (.ifCond .ne 25, 3) := by decide +kernel
theorem dX9_readLine_25 : decode cX9_readLine 25 = .ok (.aload_n 0, 1) := by decide +kernel
theorem dX9_readLine_26 : decode cX9_readLine 26 = .ok (.getfield 30, 3) := by decide +kernel
theorem dX9_readLine_29 : decode cX9_readLine 29 = .ok (.aload_n 0, 1) := by decide +kernel
theorem dX9_readLine_30 : decode cX9_readLine 30 = .ok (.getfield 283, 3) := by decide +kernel
theorem dX9_readLine_33 : decode cX9_readLine 33 = .ok (.iaload, 1) := by decide +kernel
theorem dX9_readLine_34 : decode cX9_readLine 34 = .ok (.bipush 12, 2) := by decide +kernel
theorem dX9_readLine_36 : decode cX9_readLine 36 = .ok (.if_icmp .ne 7, 3) := by decide +kernel
theorem dX9_readLine_39 : decode cX9_readLine 39 = .ok (.iconst 1, 1) := by decide +kernel
theorem dX9_readLine_40 : decode cX9_readLine 40 = .ok (.goto 98, 3) := by decide +kernel
theorem dX9_readLine_43 : decode cX9_readLine 43 = .ok (.iconst 0, 1) := by decide +kernel
theorem dX9_readLine_44 : decode cX9_readLine 44 = .ok (.goto 94, 3) := by decide +kernel
theorem dX9_readLine_47 : decode cX9_readLine 47 = .ok (.lload_n 1, 1) := by decide +kernel
theorem dX9_readLine_48 : decode cX9_readLine 48 = .ok (.ldc2_w 202, 3) := by decide +kernel
theorem dX9_readLine_51 : decode cX9_readLine 51 = .ok (.lcmp, 1) := by decide +kernel
theorem dX9_readLine_52 : decode cX9_readLine 52 = .ok (.ifCond .ne 25, 3) := by decide +kernel
theorem dX9_readLine_55 : decode cX9_readLine 55 = .ok (.aload_n 0, 1) := by decide +kernel
theorem dX9_readLine_56 : decode cX9_readLine 56 = .ok (.getfield 36, 3) := by decide +kernel
theorem dX9_readLine_59 : decode cX9_readLine 59 = .ok (.aload_n 0, 1) := by decide +kernel
theorem dX9_readLine_60 : decode cX9_readLine 60 = .ok (.getfield 283, 3) := by decide +kernel
theorem dX9_readLine_63 : decode cX9_readLine 63 = .ok (.iaload, 1) := by decide +kernel
theorem dX9_readLine_64 : decode cX9_readLine 64 = .ok (.bipush 16, 2) := by decide +kernel
theorem dX9_readLine_66 : decode cX9_readLine 66 = .ok (.if_icmp .ne 7, 3) := by decide +kernel
theorem dX9_readLine_69 : decode cX9_readLine 69 = .ok (.iconst 1, 1) := by decide +kernel
theorem dX9_readLine_70 : decode cX9_readLine 70 = .ok (.goto 68, 3) := by decide +kernel
theorem dX9_readLine_73 : decode cX9_readLine 73 = .ok (.iconst 0, 1) := by decide +kernel
theorem dX9_readLine_74 : decode cX9_readLine 74 = .ok (.goto 64, 3) := by decide +kernel
theorem dX9_readLine_77 : decode cX9_readLine 77 = .ok (.lload_n 1, 1) := by decide +kernel
theorem dX9_readLine_78 : decode cX9_readLine 78 = .ok (.ldc2_w 214, 3) := by decide +kernel
theorem dX9_readLine_81 : decode cX9_readLine 81 = .ok (.lcmp, 1) := by decide +kernel
theorem dX9_readLine_82 : decode cX9_readLine 82 = .ok (.ifCond .ne 15, 3) := by decide +kernel
theorem dX9_readLine_85 : decode cX9_readLine 85 = .ok (.aload_n 0, 1) := by decide +kernel
theorem dX9_readLine_86 : decode cX9_readLine 86 = .ok (.getfield 76, 3) := by decide +kernel
theorem dX9_readLine_89 : decode cX9_readLine 89 = .ok (.aload_n 0, 1) := by decide +kernel
theorem dX9_readLine_90 : decode cX9_readLine 90 = .ok (.getfield 283, 3) := by decide +kernel
theorem dX9_readLine_93 : decode cX9_readLine 93 = .ok (.baload, 1) := by decide +kernel
theorem dX9_readLine_94 : decode cX9_readLine 94 = .ok (.goto 44, 3) := by decide +kernel
theorem dX9_readLine_97 : decode cX9_readLine 97 = .ok (.lload_n 1, 1) := by decide +kernel
theorem dX9_readLine_98 : decode cX9_readLine 98 = .ok (.ldc2_w 216, 3) := by decide +kernel
theorem dX9_readLine_101 : decode cX9_readLine 101 = .ok (.lcmp, 1) := by decide +kernel
theorem dX9_readLine_102 : decode cX9_readLine 102 = .ok (.ifCond .ne 15, 3) := by decide +kernel
theorem dX9_readLine_105 : decode cX9_readLine 105 = .ok (.aload_n 0, 1) := by decide +kernel
theorem dX9_readLine_106 : decode cX9_readLine 106 = .ok (.getfield 80, 3) := by decide +kernel
theorem dX9_readLine_109 : decode cX9_readLine 109 = .ok (.aload_n 0, 1) := by decide +kernel
theorem dX9_readLine_110 : decode cX9_readLine 110 = .ok (.getfield 283, 3) := by decide +kernel
theorem dX9_readLine_113 : decode cX9_readLine 113 = .ok (.baload, 1) := by decide +kernel
theorem dX9_readLine_114 : decode cX9_readLine 114 = .ok (.goto 24, 3) := by decide +kernel
theorem dX9_readLine_117 : decode cX9_readLine 117 = .ok (.lload_n 1, 1) := by decide +kernel
theorem dX9_readLine_118 : decode cX9_readLine 118 = .ok (.ldc2_w 218, 3) := by decide +kernel
theorem dX9_readLine_121 : decode cX9_readLine 121 = .ok (.lcmp, 1) := by decide +kernel
theorem dX9_readLine_122 : decode cX9_readLine 122 = .ok (.ifCond .ne 15, 3) := by decide +kernel
theorem dX9_readLine_125 : decode cX9_readLine 125 = .ok (.aload_n 0, 1) := by decide +kernel
theorem dX9_readLine_126 : decode cX9_readLine 126 = .ok (.getfield 83, 3) := by decide +kernel
theorem dX9_readLine_129 : decode cX9_readLine 129 = .ok (.aload_n 0, 1) := by decide +kernel
theorem dX9_readLine_130 : decode cX9_readLine 130 = .ok (.getfield 283, 3) := by decide +kernel
theorem dX9_readLine_133 : decode cX9_readLine 133 = .ok (.baload, 1) := by decide +kernel
theorem dX9_readLine_134 : decode cX9_readLine 134 = .ok (.goto 4, 3) := by decide +kernel
theorem dX9_readLine_137 : decode cX9_readLine 137 = .ok (.iconst 1, 1) := by decide +kernel
theorem dX9_readLine_138 : decode cX9_readLine 138 = .ok (.istore_n 3, 1) := by decide +kernel
theorem dX9_readLine_139 : decode cX9_readLine 139 = .ok (.iload_n 3, 1) := by decide +kernel
theorem dX9_readLine_140 : decode cX9_readLine 140 = .ok (.ifCond .eq 7, 3) := by decide +kernel
theorem dX9_readLine_143 : decode cX9_readLine 143 = .ok (.aload_n 0, 1) := by decide +kernel
theorem dX9_readLine_144 : decode cX9_readLine 144 = .ok (.invokevirtual 269, 3) := by decide +kernel
theorem dX9_readLine_147 : decode cX9_readLine 147 = .ok (.aload_n 0, 1) := by decide +kernel
theorem dX9_readLine_148 : decode cX9_readLine 148 = .ok (.invokevirtual 272, 3) := by decide +kernel
theorem dX9_readLine_151 : decode cX9_readLine 151 = .ok (.ifCond .ne 4, 3) := by decide +kernel
theorem dX9_readLine_154 : decode cX9_readLine 154 = .ok (.return_, 1) := by decide +kernel
theorem dX9_readLine_155 : decode cX9_readLine 155 = .ok (.aload_n 0, 1) := by decide +kernel
theorem dX9_readLine_156 : decode cX9_readLine 156 = .ok (.invokevirtual 266, 3) := by decide +kernel
theorem dX9_readLine_159 : decode cX9_readLine 159 = .ok (.lload_n 1, 1) := by decide +kernel
theorem dX9_readLine_160 : decode cX9_readLine 160 = .ok (.ldc2_w 200, 3) := by decide +kernel
theorem dX9_readLine_163 : decode cX9_readLine 163 = .ok (.lcmp, 1) := by decide +kernel
theorem dX9_readLine_164 : decode cX9_readLine 164 = .ok (.ifCond .ne 10, 3) := by decide +kernel
theorem dX9_readLine_167 : decode cX9_readLine 167 = .ok (.aload_n 0, 1) := by decide +kernel
theorem dX9_readLine_168 : decode cX9_readLine 168 = .ok (.invokevirtual 295, 3) := by decide +kernel
theorem dX9_readLine_171 : decode cX9_readLine 171 = .ok (.goto 52, 3) := by decide +kernel
theorem dX9_readLine_174 : decode cX9_readLine 174 = .ok (.lload_n 1, 1) := by decide +kernel
theorem dX9_readLine_175 : decode cX9_readLine 175 = .ok (.ldc2_w 202, 3) := by decide +kernel
theorem dX9_readLine_178 : decode cX9_readLine 178 = .ok (.lcmp, 1) := by decide +kernel
theorem dX9_readLine_179 : decode cX9_readLine 179 = .ok (.ifCond .ne 10, 3) := by decide +kernel
theorem dX9_readLine_182 : decode cX9_readLine 182 = .ok (.aload_n 0, 1) := by decide +kernel
theorem dX9_readLine_183 : decode cX9_readLine 183 = .ok (.invokevirtual 298, 3) := by decide +kernel
theorem dX9_readLine_186 : decode cX9_readLine 186 = .ok (.goto 37, 3) := by decide +kernel
theorem dX9_readLine_189 : decode cX9_readLine 189 = .ok (.lload_n 1, 1) := by decide +kernel
theorem dX9_readLine_190 : decode cX9_readLine 190 = .ok (.ldc2_w 214, 3) := by decide +kernel
theorem dX9_readLine_193 : decode cX9_readLine 193 = .ok (.lcmp, 1) := by decide +kernel
theorem dX9_readLine_194 : decode cX9_readLine 194 = .ok (.ifCond .ne 10, 3) := by decide +kernel
theorem dX9_readLine_197 : decode cX9_readLine 197 = .ok (.aload_n 0, 1) := by decide +kernel
theorem dX9_readLine_198 : decode cX9_readLine 198 = .ok (.invokevirtual 301, 3) := by decide +kernel
theorem dX9_readLine_201 : decode cX9_readLine 201 = .ok (.goto 22, 3) := by decide +kernel
theorem dX9_readLine_204 : decode cX9_readLine 204 = .ok (.lload_n 1, 1) := by decide +kernel
theorem dX9_readLine_205 : decode cX9_readLine 205 = .ok (.ldc2_w 216, 3) := by decide +kernel
theorem dX9_readLine_208 : decode cX9_readLine 208 = .ok (.lcmp, 1) := by decide +kernel
theorem dX9_readLine_209 : decode cX9_readLine 209 = .ok (.ifCond .ne 10, 3) := by decide +kernel
theorem dX9_readLine_212 : decode cX9_readLine 212 = .ok (.aload_n 0, 1) := by decide +kernel
theorem dX9_readLine_213 : decode cX9_readLine 213 = .ok (.invokevirtual 304, 3) := by decide +kernel
theorem dX9_readLine_216 : decode cX9_readLine 216 = .ok (.goto 7, 3) := by decide +kernel
theorem dX9_readLine_219 : decode cX9_readLine 219 = .ok (.aload_n 0, 1) := by decide +kernel
theorem dX9_readLine_220 : decode cX9_readLine 220 = .ok (.invokevirtual 307, 3) := by decide +kernel
theorem dX9_readLine_223 : decode cX9_readLine 223 = .ok (.aload_n 0, 1) := by decide +kernel
theorem dX9_readLine_224 : decode cX9_readLine 224 = .ok (.invokevirtual 272, 3) := by decide +kernel
theorem dX9_readLine_227 : decode cX9_readLine 227 = .ok (.ifCond .eq 16, 3) := by decide +kernel
theorem dX9_readLine_230 : decode cX9_readLine 230 = .ok (.aload_n 0, 1) := by decide +kernel
theorem dX9_readLine_231 : decode cX9_readLine 231 = .ok (.bipush 59, 2) := by decide +kernel
theorem dX9_readLine_233 : decode cX9_readLine 233 = .ok (.invokevirtual 310, 3) := by decide +kernel
theorem dX9_readLine_236 : decode cX9_readLine 236 = .ok (.ifCond .ne 7, 3) := by decide +kernel
theorem dX9_readLine_239 : decode cX9_readLine 239 = .ok (.aload_n 0, 1) := by decide +kernel
theorem dX9_readLine_240 : decode cX9_readLine 240 = .ok (.invokevirtual 269, 3) := by decide +kernel
theorem dX9_readLine_243 : decode cX9_readLine 243 = .ok (.aload_n 0, 1) := by decide +kernel
theorem dX9_readLine_244 : decode cX9_readLine 244 = .ok (.invokevirtual 272, 3) := by decide +kernel
theorem dX9_readLine_247 : decode cX9_readLine 247 = .ok (.ifCond .eq 7, 3) := by decide +kernel
theorem dX9_readLine_250 : decode cX9_readLine 250 = .ok (.aload_n 0, 1) := by decide +kernel
theorem dX9_readLine_251 : decode cX9_readLine 251 = .ok (.invokevirtual 266, 3) := by decide +kernel
theorem dX9_readLine_254 : decode cX9_readLine 254 = .ok (.return_, 1) := by decide +kernel
theorem dX9_hurtOf_0 : decode cX9_hurtOf 0 = .ok (.iconst 0, 1) := by decide +kernel
theorem dX9_hurtOf_1 : decode cX9_hurtOf 1 = .ok (.istore 4, 2) := by decide +kernel
theorem dX9_hurtOf_3 : decode cX9_hurtOf 3 = .ok (.iload 4, 2) := by decide +kernel
theorem dX9_hurtOf_5 : decode cX9_hurtOf 5 = .ok (.aload_n 0, 1) := by decide +kernel
theorem dX9_hurtOf_6 : decode cX9_hurtOf 6 = .ok (.getfield 30, 3) := by decide +kernel
theorem dX9_hurtOf_9 : decode cX9_hurtOf 9 = .ok (.iload_n 1, 1) := by decide +kernel
theorem dX9_hurtOf_10 : decode cX9_hurtOf 10 = .ok (.iaload, 1) := by decide +kernel
theorem dX9_hurtOf_11 : decode cX9_hurtOf 11 = .ok (.if_icmp .ge 34, 3) := by decide +kernel
theorem dX9_hurtOf_14 : decode cX9_hurtOf 14 = .ok (.aload_n 0, 1) := by decide +kernel
theorem dX9_hurtOf_15 : decode cX9_hurtOf 15 = .ok (.getfield 72, 3) := by decide +kernel
theorem dX9_hurtOf_18 : decode cX9_hurtOf 18 = .ok (.bipush 12, 2) := by decide +kernel
theorem dX9_hurtOf_20 : decode cX9_hurtOf 20 = .ok (.iload_n 1, 1) := by decide +kernel
theorem dX9_hurtOf_21 : decode cX9_hurtOf 21 = .ok (.imul, 1) := by decide +kernel
theorem dX9_hurtOf_22 : decode cX9_hurtOf 22 = .ok (.iload 4, 2) := by decide +kernel
theorem dX9_hurtOf_24 : decode cX9_hurtOf 24 = .ok (.iadd, 1) := by decide +kernel
theorem dX9_hurtOf_25 : decode cX9_hurtOf 25 = .ok (.laload, 1) := by decide +kernel
theorem dX9_hurtOf_26 : decode cX9_hurtOf 26 = .ok (.lload_n 2, 1) := by decide +kernel
theorem dX9_hurtOf_27 : decode cX9_hurtOf 27 = .ok (.lcmp, 1) := by decide +kernel
theorem dX9_hurtOf_28 : decode cX9_hurtOf 28 = .ok (.ifCond .ne 11, 3) := by decide +kernel
theorem dX9_hurtOf_31 : decode cX9_hurtOf 31 = .ok (.bipush 12, 2) := by decide +kernel
theorem dX9_hurtOf_33 : decode cX9_hurtOf 33 = .ok (.iload_n 1, 1) := by decide +kernel
theorem dX9_hurtOf_34 : decode cX9_hurtOf 34 = .ok (.imul, 1) := by decide +kernel
theorem dX9_hurtOf_35 : decode cX9_hurtOf 35 = .ok (.iload 4, 2) := by decide +kernel
theorem dX9_hurtOf_37 : decode cX9_hurtOf 37 = .ok (.iadd, 1) := by decide +kernel
theorem dX9_hurtOf_38 : decode cX9_hurtOf 38 = .ok (.ireturn, 1) := by decide +kernel
theorem dX9_hurtOf_39 : decode cX9_hurtOf 39 = .ok (.iinc 4 1, 3) := by decide +kernel
theorem dX9_hurtOf_42 : decode cX9_hurtOf 42 = .ok (.goto (-39), 3) := by decide +kernel
theorem dX9_hurtOf_45 : decode cX9_hurtOf 45 = .ok (.iconst (-1), 1) := by decide +kernel
theorem dX9_hurtOf_46 : decode cX9_hurtOf 46 = .ok (.ireturn, 1) := by decide +kernel
theorem dX9_readHurt_0 : decode cX9_readHurt 0 = .ok (.aload_n 0, 1) := by decide +kernel
theorem dX9_readHurt_1 : decode cX9_readHurt 1 = .ok (.getfield 238, 3) := by decide +kernel
theorem dX9_readHurt_4 : decode cX9_readHurt 4 = .ok (.iconst 2, 1) := by decide +kernel
theorem dX9_readHurt_5 : decode cX9_readHurt 5 = .ok (.if_icmp .eq 7, 3) := by decide +kernel
theorem dX9_readHurt_8 : decode cX9_readHurt 8 = .ok (.aload_n 0, 1) := by decide +kernel
theorem dX9_readHurt_9 : decode cX9_readHurt 9 = .ok (.invokevirtual 269, 3) := by decide +kernel
theorem dX9_readHurt_12 : decode cX9_readHurt 12 = .ok (.aload_n 0, 1) := by decide +kernel
theorem dX9_readHurt_13 : decode cX9_readHurt 13 = .ok (.invokevirtual 272, 3) := by decide +kernel
theorem dX9_readHurt_16 : decode cX9_readHurt 16 = .ok (.ifCond .eq 27, 3) := by decide +kernel
theorem dX9_readHurt_19 : decode cX9_readHurt 19 = .ok (.aload_n 0, 1) := by decide +kernel
theorem dX9_readHurt_20 : decode cX9_readHurt 20 = .ok (.aload_n 0, 1) := by decide +kernel
theorem dX9_readHurt_21 : decode cX9_readHurt 21 = .ok (.getfield 283, 3) := by decide +kernel
theorem dX9_readHurt_24 : decode cX9_readHurt 24 = .ok (.aload_n 0, 1) := by decide +kernel
theorem dX9_readHurt_25 : decode cX9_readHurt 25 = .ok (.getfield 245, 3) := by decide +kernel
theorem dX9_readHurt_28 : decode cX9_readHurt 28 = .ok (.invokevirtual 313, 3) := by decide +kernel
theorem dX9_readHurt_31 : decode cX9_readHurt 31 = .ok (.ifCond .lt 12, 3) := by decide +kernel
theorem dX9_readHurt_34 : decode cX9_readHurt 34 = .ok (.aload_n 0, 1) := by decide +kernel
theorem dX9_readHurt_35 : decode cX9_readHurt 35 = .ok (.iconst 3, 1) := by decide +kernel
theorem dX9_readHurt_36 : decode cX9_readHurt 36 = .ok (.aload_n 0, 1) := by decide +kernel
theorem dX9_readHurt_37 : decode cX9_readHurt 37 = .ok (.getfield 231, 3) := by decide +kernel
theorem dX9_readHurt_40 : decode cX9_readHurt 40 = .ok (.invokevirtual 259, 3) := by decide +kernel
theorem dX9_readHurt_43 : decode cX9_readHurt 43 = .ok (.aload_n 0, 1) := by decide +kernel
theorem dX9_readHurt_44 : decode cX9_readHurt 44 = .ok (.invokevirtual 272, 3) := by decide +kernel
theorem dX9_readHurt_47 : decode cX9_readHurt 47 = .ok (.ifCond .ne 4, 3) := by decide +kernel
theorem dX9_readHurt_50 : decode cX9_readHurt 50 = .ok (.return_, 1) := by decide +kernel
theorem dX9_readHurt_51 : decode cX9_readHurt 51 = .ok (.bipush 12, 2) := by decide +kernel
theorem dX9_readHurt_53 : decode cX9_readHurt 53 = .ok (.aload_n 0, 1) := by decide +kernel
theorem dX9_readHurt_54 : decode cX9_readHurt 54 = .ok (.getfield 283, 3) := by decide +kernel
theorem dX9_readHurt_57 : decode cX9_readHurt 57 = .ok (.imul, 1) := by decide +kernel
theorem dX9_readHurt_58 : decode cX9_readHurt 58 = .ok (.aload_n 0, 1) := by decide +kernel
theorem dX9_readHurt_59 : decode cX9_readHurt 59 = .ok (.getfield 30, 3) := by decide +kernel
theorem dX9_readHurt_62 : decode cX9_readHurt 62 = .ok (.aload_n 0, 1) := by decide +kernel
theorem dX9_readHurt_63 : decode cX9_readHurt 63 = .ok (.getfield 283, 3) := by decide +kernel
theorem dX9_readHurt_66 : decode cX9_readHurt 66 = .ok (.iaload, 1) := by decide +kernel
theorem dX9_readHurt_67 : decode cX9_readHurt 67 = .ok (.iadd, 1) := by decide +kernel
theorem dX9_readHurt_68 : decode cX9_readHurt 68 = .ok (.istore_n 1, 1) := by decide +kernel
theorem dX9_readHurt_69 : decode cX9_readHurt 69 = .ok (.aload_n 0, 1) := by decide +kernel
theorem dX9_readHurt_70 : decode cX9_readHurt 70 = .ok (.getfield 72, 3) := by decide +kernel
theorem dX9_readHurt_73 : decode cX9_readHurt 73 = .ok (.iload_n 1, 1) := by decide +kernel
theorem dX9_readHurt_74 : decode cX9_readHurt 74 = .ok (.aload_n 0, 1) := by decide +kernel
theorem dX9_readHurt_75 : decode cX9_readHurt 75 = .ok (.getfield 245, 3) := by decide +kernel
theorem dX9_readHurt_78 : decode cX9_readHurt 78 = .ok (.lastore, 1) := by decide +kernel
theorem dX9_readHurt_79 : decode cX9_readHurt 79 = .ok (.aload_n 0, 1) := by decide +kernel
theorem dX9_readHurt_80 : decode cX9_readHurt 80 = .ok (.invokevirtual 266, 3) := by decide +kernel
theorem dX9_readHurt_83 : decode cX9_readHurt 83 = .ok (.aload_n 0, 1) := by decide +kernel
theorem dX9_readHurt_84 : decode cX9_readHurt 84 = .ok (.getfield 33, 3) := by decide +kernel
theorem dX9_readHurt_87 : decode cX9_readHurt 87 = .ok (.iload_n 1, 1) := by decide +kernel
theorem dX9_readHurt_88 : decode cX9_readHurt 88 = .ok (.aload_n 0, 1) := by decide +kernel
theorem dX9_readHurt_89 : decode cX9_readHurt 89 = .ok (.iconst 0, 1) := by decide +kernel
theorem dX9_readHurt_90 : decode cX9_readHurt 90 = .ok (.ldc_w 276, 3) := by decide +kernel
theorem dX9_readHurt_93 : decode cX9_readHurt 93 = .ok (.invokevirtual 317, 3) := by decide +kernel
theorem dX9_readHurt_96 : decode cX9_readHurt 96 = .ok (.iastore, 1) := by decide +kernel
theorem dX9_readHurt_97 : decode cX9_readHurt 97 = .ok (.aload_n 0, 1) := by decide +kernel
theorem dX9_readHurt_98 : decode cX9_readHurt 98 = .ok (.getfield 30, 3) := by decide +kernel
theorem dX9_readHurt_101 : decode cX9_readHurt 101 = .ok (.aload_n 0, 1) := by decide +kernel
theorem dX9_readHurt_102 : decode cX9_readHurt 102 = .ok (.getfield 283, 3) := by decide +kernel
theorem dX9_readHurt_105 : decode cX9_readHurt 105 = .ok (.dup2, 1) := by decide +kernel
theorem dX9_readHurt_106 : decode cX9_readHurt 106 = .ok (.iaload, 1) := by decide +kernel
theorem dX9_readHurt_107 : decode cX9_readHurt 107 = .ok (.iconst 1, 1) := by decide +kernel
theorem dX9_readHurt_108 : decode cX9_readHurt 108 = .ok (.iadd, 1) := by decide +kernel
theorem dX9_readHurt_109 : decode cX9_readHurt 109 = .ok (.iastore, 1) := by decide +kernel
theorem dX9_readHurt_110 : decode cX9_readHurt 110 = .ok (.return_, 1) := by decide +kernel
theorem dX9_readShare_0 : decode cX9_readShare 0 = .ok (.aload_n 0, 1) := by decide +kernel
theorem dX9_readShare_1 : decode cX9_readShare 1 = .ok (.getfield 76, 3) := by decide +kernel
theorem dX9_readShare_4 : decode cX9_readShare 4 = .ok (.aload_n 0, 1) := by decide +kernel
theorem dX9_readShare_5 : decode cX9_readShare 5 = .ok (.getfield 283, 3) := by decide +kernel
theorem dX9_readShare_8 : decode cX9_readShare 8 = .ok (.iconst 1, 1) := by decide +kernel
theorem dX9_readShare_9 : decode cX9_readShare 9 = .ok (.bastore, 1) := by decide +kernel
theorem dX9_readShare_10 : decode cX9_readShare 10 = .ok (.iconst 0, 1) := by decide +kernel
theorem dX9_readShare_11 : decode cX9_readShare 11 = .ok (.istore_n 1, 1) := by decide +kernel
theorem dX9_readShare_12 : decode cX9_readShare 12 = .ok (.iconst 0, 1) := by decide +kernel
theorem dX9_readShare_13 : decode cX9_readShare 13 = .ok (.istore_n 2, 1) := by decide +kernel
theorem dX9_readShare_14 : decode cX9_readShare 14 = .ok (.iload_n 2, 1) := by decide +kernel
theorem dX9_readShare_15 : decode cX9_readShare 15 = .ok (.iconst 4, 1) := by decide +kernel
theorem dX9_readShare_16 : decode cX9_readShare 16 = .ok (.if_icmp .ge 79, 3) := by decide +kernel
theorem dX9_readShare_19 : decode cX9_readShare 19 = .ok (.aload_n 0, 1) := by decide +kernel
theorem dX9_readShare_20 : decode cX9_readShare 20 = .ok (.invokevirtual 272, 3) := by decide +kernel
theorem dX9_readShare_23 : decode cX9_readShare 23 = .ok (.ifCond .eq 72, 3) := by decide +kernel
theorem dX9_readShare_26 : decode cX9_readShare 26 = .ok (.aload_n 0, 1) := by decide +kernel
theorem dX9_readShare_27 : decode cX9_readShare 27 = .ok (.getfield 231, 3) := by decide +kernel
theorem dX9_readShare_30 : decode cX9_readShare 30 = .ok (.istore_n 3, 1) := by decide +kernel
theorem dX9_readShare_31 : decode cX9_readShare 31 = .ok (.aload_n 0, 1) := by decide +kernel
theorem dX9_readShare_32 : decode cX9_readShare 32 = .ok (.getfield 51, 3) := by decide +kernel
theorem dX9_readShare_35 : decode cX9_readShare 35 = .ok (.iconst 4, 1) := by decide +kernel
theorem dX9_readShare_36 : decode cX9_readShare 36 = .ok (.aload_n 0, 1) := by decide +kernel
theorem dX9_readShare_37 : decode cX9_readShare 37 = .ok (.getfield 283, 3) := by decide +kernel
theorem dX9_readShare_40 : decode cX9_readShare 40 = .ok (.imul, 1) := by decide +kernel
theorem dX9_readShare_41 : decode cX9_readShare 41 = .ok (.iload_n 2, 1) := by decide +kernel
theorem dX9_readShare_42 : decode cX9_readShare 42 = .ok (.iadd, 1) := by decide +kernel
theorem dX9_readShare_43 : decode cX9_readShare 43 = .ok (.aload_n 0, 1) := by decide +kernel
theorem dX9_readShare_44 : decode cX9_readShare 44 = .ok (.iconst 0, 1) := by decide +kernel
theorem dX9_readShare_45 : decode cX9_readShare 45 = .ok (.bipush 100, 2) := by decide +kernel
theorem dX9_readShare_47 : decode cX9_readShare 47 = .ok (.invokevirtual 317, 3) := by decide +kernel
theorem dX9_readShare_50 : decode cX9_readShare 50 = .ok (.iastore, 1) := by decide +kernel
theorem dX9_readShare_51 : decode cX9_readShare 51 = .ok (.iload_n 1, 1) := by decide +kernel
theorem dX9_readShare_52 : decode cX9_readShare 52 = .ok (.aload_n 0, 1) := by decide +kernel
theorem dX9_readShare_53 : decode cX9_readShare 53 = .ok (.getfield 51, 3) := by decide +kernel
theorem dX9_readShare_56 : decode cX9_readShare 56 = .ok (.iconst 4, 1) := by decide +kernel
theorem dX9_readShare_57 : decode cX9_readShare 57 = .ok (.aload_n 0, 1) := by decide +kernel
theorem dX9_readShare_58 : decode cX9_readShare 58 = .ok (.getfield 283, 3) := by decide +kernel
theorem dX9_readShare_61 : decode cX9_readShare 61 = .ok (.imul, 1) := by decide +kernel
theorem dX9_readShare_62 : decode cX9_readShare 62 = .ok (.iload_n 2, 1) := by decide +kernel
theorem dX9_readShare_63 : decode cX9_readShare 63 = .ok (.iadd, 1) := by decide +kernel
theorem dX9_readShare_64 : decode cX9_readShare 64 = .ok (.iaload, 1) := by decide +kernel
theorem dX9_readShare_65 : decode cX9_readShare 65 = .ok (.iadd, 1) := by decide +kernel
theorem dX9_readShare_66 : decode cX9_readShare 66 = .ok (.istore_n 1, 1) := by decide +kernel
theorem dX9_readShare_67 : decode cX9_readShare 67 = .ok (.aload_n 0, 1) := by decide +kernel
theorem dX9_readShare_68 : decode cX9_readShare 68 = .ok (.invokevirtual 272, 3) := by decide +kernel
theorem dX9_readShare_71 : decode cX9_readShare 71 = .ok (.ifCond .eq 18, 3) := by decide +kernel
theorem dX9_readShare_74 : decode cX9_readShare 74 = .ok (.iload_n 2, 1) := by decide +kernel
theorem dX9_readShare_75 : decode cX9_readShare 75 = .ok (.iconst 3, 1) := by decide +kernel
theorem dX9_readShare_76 : decode cX9_readShare 76 = .ok (.if_icmp .ne 13, 3) := by decide +kernel
theorem dX9_readShare_79 : decode cX9_readShare 79 = .ok (.iload_n 1, 1) := by decide +kernel
theorem dX9_readShare_80 : decode cX9_readShare 80 = .ok (.ifCond .ne 9, 3) := by decide +kernel
theorem dX9_readShare_83 : decode cX9_readShare 83 = .ok (.aload_n 0, 1) := by decide +kernel
theorem dX9_readShare_84 : decode cX9_readShare 84 = .ok (.iconst 4, 1) := by decide +kernel
theorem dX9_readShare_85 : decode cX9_readShare 85 = .ok (.iload_n 3, 1) := by decide +kernel
theorem dX9_readShare_86 : decode cX9_readShare 86 = .ok (.invokevirtual 259, 3) := by decide +kernel
theorem dX9_readShare_89 : decode cX9_readShare 89 = .ok (.iinc 2 1, 3) := by decide +kernel
theorem dX9_readShare_92 : decode cX9_readShare 92 = .ok (.goto (-78), 3) := by decide +kernel
theorem dX9_readShare_95 : decode cX9_readShare 95 = .ok (.return_, 1) := by decide +kernel
theorem dX9_readNeed_0 : decode cX9_readNeed 0 = .ok (.aload_n 0, 1) := by decide +kernel
theorem dX9_readNeed_1 : decode cX9_readNeed 1 = .ok (.getfield 80, 3) := by decide +kernel
theorem dX9_readNeed_4 : decode cX9_readNeed 4 = .ok (.aload_n 0, 1) := by decide +kernel
theorem dX9_readNeed_5 : decode cX9_readNeed 5 = .ok (.getfield 283, 3) := by decide +kernel
theorem dX9_readNeed_8 : decode cX9_readNeed 8 = .ok (.iconst 1, 1) := by decide +kernel
theorem dX9_readNeed_9 : decode cX9_readNeed 9 = .ok (.bastore, 1) := by decide +kernel
theorem dX9_readNeed_10 : decode cX9_readNeed 10 = .ok (.aload_n 0, 1) := by decide +kernel
theorem dX9_readNeed_11 : decode cX9_readNeed 11 = .ok (.getfield 54, 3) := by decide +kernel
theorem dX9_readNeed_14 : decode cX9_readNeed 14 = .ok (.aload_n 0, 1) := by decide +kernel
theorem dX9_readNeed_15 : decode cX9_readNeed 15 = .ok (.getfield 283, 3) := by decide +kernel
theorem dX9_readNeed_18 : decode cX9_readNeed 18 = .ok (.aload_n 0, 1) := by decide +kernel
theorem dX9_readNeed_19 : decode cX9_readNeed 19 = .ok (.iconst 0, 1) := by decide +kernel
theorem dX9_readNeed_20 : decode cX9_readNeed 20 = .ok (.bipush 12, 2) := by decide +kernel
theorem dX9_readNeed_22 : decode cX9_readNeed 22 = .ok (.invokevirtual 317, 3) := by decide +kernel
theorem dX9_readNeed_25 : decode cX9_readNeed 25 = .ok (.iastore, 1) := by decide +kernel
theorem dX9_readNeed_26 : decode cX9_readNeed 26 = .ok (.aload_n 0, 1) := by decide +kernel
theorem dX9_readNeed_27 : decode cX9_readNeed 27 = .ok (.invokevirtual 272, 3) := by decide +kernel
theorem dX9_readNeed_30 : decode cX9_readNeed 30 = .ok (.ifCond .eq 10, 3) := by decide +kernel
theorem dX9_readNeed_33 : decode cX9_readNeed 33 = .ok (.aload_n 0, 1) := by decide +kernel
theorem dX9_readNeed_34 : decode cX9_readNeed 34 = .ok (.ldc2_w 182, 3) := by decide +kernel
theorem dX9_readNeed_37 : decode cX9_readNeed 37 = .ok (.invokevirtual 321, 3) := by decide +kernel
theorem dX9_readNeed_40 : decode cX9_readNeed 40 = .ok (.aload_n 0, 1) := by decide +kernel
theorem dX9_readNeed_41 : decode cX9_readNeed 41 = .ok (.getfield 57, 3) := by decide +kernel
theorem dX9_readNeed_44 : decode cX9_readNeed 44 = .ok (.aload_n 0, 1) := by decide +kernel
theorem dX9_readNeed_45 : decode cX9_readNeed 45 = .ok (.getfield 283, 3) := by decide +kernel
theorem dX9_readNeed_48 : decode cX9_readNeed 48 = .ok (.aload_n 0, 1) := by decide +kernel
theorem dX9_readNeed_49 : decode cX9_readNeed 49 = .ok (.iconst 0, 1) := by decide +kernel
theorem dX9_readNeed_50 : decode cX9_readNeed 50 = .ok (.iconst 3, 1) := by decide +kernel
theorem dX9_readNeed_51 : decode cX9_readNeed 51 = .ok (.invokevirtual 317, 3) := by decide +kernel
theorem dX9_readNeed_54 : decode cX9_readNeed 54 = .ok (.iastore, 1) := by decide +kernel
theorem dX9_readNeed_55 : decode cX9_readNeed 55 = .ok (.return_, 1) := by decide +kernel
theorem dX9_readTerms_0 : decode cX9_readTerms 0 = .ok (.aload_n 0, 1) := by decide +kernel
theorem dX9_readTerms_1 : decode cX9_readTerms 1 = .ok (.getfield 83, 3) := by decide +kernel
theorem dX9_readTerms_4 : decode cX9_readTerms 4 = .ok (.aload_n 0, 1) := by decide +kernel
theorem dX9_readTerms_5 : decode cX9_readTerms 5 = .ok (.getfield 283, 3) := by decide +kernel
theorem dX9_readTerms_8 : decode cX9_readTerms 8 = .ok (.iconst 1, 1) := by decide +kernel
theorem dX9_readTerms_9 : decode cX9_readTerms 9 = .ok (.bastore, 1) := by decide +kernel
theorem dX9_readTerms_10 : decode cX9_readTerms 10 = .ok (.aload_n 0, 1) := by decide +kernel
theorem dX9_readTerms_11 : decode cX9_readTerms 11 = .ok (.getfield 60, 3) := by decide +kernel
theorem dX9_readTerms_14 : decode cX9_readTerms 14 = .ok (.aload_n 0, 1) := by decide +kernel
theorem dX9_readTerms_15 : decode cX9_readTerms 15 = .ok (.getfield 283, 3) := by decide +kernel
theorem dX9_readTerms_18 : decode cX9_readTerms 18 = .ok (.aload_n 0, 1) := by decide +kernel
theorem dX9_readTerms_19 : decode cX9_readTerms 19 = .ok (.iconst 1, 1) := by decide +kernel
theorem dX9_readTerms_20 : decode cX9_readTerms 20 = .ok (.bipush 6, 2) := by decide +kernel
theorem dX9_readTerms_22 : decode cX9_readTerms 22 = .ok (.invokevirtual 317, 3) := by decide +kernel
theorem dX9_readTerms_25 : decode cX9_readTerms 25 = .ok (.iastore, 1) := by decide +kernel
theorem dX9_readTerms_26 : decode cX9_readTerms 26 = .ok (.aload_n 0, 1) := by decide +kernel
theorem dX9_readTerms_27 : decode cX9_readTerms 27 = .ok (.invokevirtual 272, 3) := by decide +kernel
theorem dX9_readTerms_30 : decode cX9_readTerms 30 = .ok (.ifCond .eq 10, 3) := by decide +kernel
theorem dX9_readTerms_33 : decode cX9_readTerms 33 = .ok (.aload_n 0, 1) := by decide +kernel
theorem dX9_readTerms_34 : decode cX9_readTerms 34 = .ok (.ldc2_w 220, 3) := by decide +kernel
theorem dX9_readTerms_37 : decode cX9_readTerms 37 = .ok (.invokevirtual 321, 3) := by decide +kernel
theorem dX9_readTerms_40 : decode cX9_readTerms 40 = .ok (.aload_n 0, 1) := by decide +kernel
theorem dX9_readTerms_41 : decode cX9_readTerms 41 = .ok (.getfield 63, 3) := by decide +kernel
theorem dX9_readTerms_44 : decode cX9_readTerms 44 = .ok (.aload_n 0, 1) := by decide +kernel
theorem dX9_readTerms_45 : decode cX9_readTerms 45 = .ok (.getfield 283, 3) := by decide +kernel
theorem dX9_readTerms_48 : decode cX9_readTerms 48 = .ok (.aload_n 0, 1) := by decide +kernel
theorem dX9_readTerms_49 : decode cX9_readTerms 49 = .ok (.iconst 1, 1) := by decide +kernel
theorem dX9_readTerms_50 : decode cX9_readTerms 50 = .ok (.sipush 400, 3) := by decide +kernel
theorem dX9_readTerms_53 : decode cX9_readTerms 53 = .ok (.invokevirtual 317, 3) := by decide +kernel
theorem dX9_readTerms_56 : decode cX9_readTerms 56 = .ok (.iastore, 1) := by decide +kernel
theorem dX9_readTerms_57 : decode cX9_readTerms 57 = .ok (.return_, 1) := by decide +kernel
theorem dX9_readWhen_0 : decode cX9_readWhen 0 = .ok (.bipush 16, 2) := by decide +kernel
theorem dX9_readWhen_2 : decode cX9_readWhen 2 = .ok (.aload_n 0, 1) := by decide +kernel
theorem dX9_readWhen_3 : decode cX9_readWhen 3 = .ok (.getfield 283, 3) := by decide +kernel
theorem dX9_readWhen_6 : decode cX9_readWhen 6 = .ok (.imul, 1) := by decide +kernel
theorem dX9_readWhen_7 : decode cX9_readWhen 7 = .ok (.aload_n 0, 1) := by decide +kernel
theorem dX9_readWhen_8 : decode cX9_readWhen 8 = .ok (.getfield 36, 3) := by decide +kernel
theorem dX9_readWhen_11 : decode cX9_readWhen 11 = .ok (.aload_n 0, 1) := by decide +kernel
theorem dX9_readWhen_12 : decode cX9_readWhen 12 = .ok (.getfield 283, 3) := by decide +kernel
theorem dX9_readWhen_15 : decode cX9_readWhen 15 = .ok (.iaload, 1) := by decide +kernel
theorem dX9_readWhen_16 : decode cX9_readWhen 16 = .ok (.iadd, 1) := by decide +kernel
theorem dX9_readWhen_17 : decode cX9_readWhen 17 = .ok (.istore_n 1, 1) := by decide +kernel
theorem dX9_readWhen_18 : decode cX9_readWhen 18 = .ok (.aload_n 0, 1) := by decide +kernel
theorem dX9_readWhen_19 : decode cX9_readWhen 19 = .ok (.getfield 39, 3) := by decide +kernel
theorem dX9_readWhen_22 : decode cX9_readWhen 22 = .ok (.iload_n 1, 1) := by decide +kernel
theorem dX9_readWhen_23 : decode cX9_readWhen 23 = .ok (.aload_n 0, 1) := by decide +kernel
theorem dX9_readWhen_24 : decode cX9_readWhen 24 = .ok (.getfield 286, 3) := by decide +kernel
theorem dX9_readWhen_27 : decode cX9_readWhen 27 = .ok (.iastore, 1) := by decide +kernel
theorem dX9_readWhen_28 : decode cX9_readWhen 28 = .ok (.aload_n 0, 1) := by decide +kernel
theorem dX9_readWhen_29 : decode cX9_readWhen 29 = .ok (.invokevirtual 325, 3) := by decide +kernel
theorem dX9_readWhen_32 : decode cX9_readWhen 32 = .ok (.aload_n 0, 1) := by decide +kernel
theorem dX9_readWhen_33 : decode cX9_readWhen 33 = .ok (.getfield 42, 3) := by decide +kernel
theorem dX9_readWhen_36 : decode cX9_readWhen 36 = .ok (.iload_n 1, 1) := by decide +kernel
theorem dX9_readWhen_37 : decode cX9_readWhen 37 = .ok (.aload_n 0, 1) := by decide +kernel
theorem dX9_readWhen_38 : decode cX9_readWhen 38 = .ok (.getfield 286, 3) := by decide +kernel
theorem dX9_readWhen_41 : decode cX9_readWhen 41 = .ok (.iastore, 1) := by decide +kernel
theorem dX9_readWhen_42 : decode cX9_readWhen 42 = .ok (.aload_n 0, 1) := by decide +kernel
theorem dX9_readWhen_43 : decode cX9_readWhen 43 = .ok (.getfield 36, 3) := by decide +kernel
theorem dX9_readWhen_46 : decode cX9_readWhen 46 = .ok (.aload_n 0, 1) := by decide +kernel
theorem dX9_readWhen_47 : decode cX9_readWhen 47 = .ok (.getfield 283, 3) := by decide +kernel
theorem dX9_readWhen_50 : decode cX9_readWhen 50 = .ok (.dup2, 1) := by decide +kernel
theorem dX9_readWhen_51 : decode cX9_readWhen 51 = .ok (.iaload, 1) := by decide +kernel
theorem dX9_readWhen_52 : decode cX9_readWhen 52 = .ok (.iconst 1, 1) := by decide +kernel
theorem dX9_readWhen_53 : decode cX9_readWhen 53 = .ok (.iadd, 1) := by decide +kernel
theorem dX9_readWhen_54 : decode cX9_readWhen 54 = .ok (.iastore, 1) := by decide +kernel
theorem dX9_readWhen_55 : decode cX9_readWhen 55 = .ok (.aload_n 0, 1) := by decide +kernel
theorem dX9_readWhen_56 : decode cX9_readWhen 56 = .ok (.invokevirtual 272, 3) := by decide +kernel
theorem dX9_readWhen_59 : decode cX9_readWhen 59 = .ok (.ifCond .eq 10, 3) := by decide +kernel
theorem dX9_readWhen_62 : decode cX9_readWhen 62 = .ok (.aload_n 0, 1) := by decide +kernel
theorem dX9_readWhen_63 : decode cX9_readWhen 63 = .ok (.ldc2_w 204, 3) := by decide +kernel
theorem dX9_readWhen_66 : decode cX9_readWhen 66 = .ok (.invokevirtual 321, 3) := by decide +kernel
theorem dX9_readWhen_69 : decode cX9_readWhen 69 = .ok (.aload_n 0, 1) := by decide +kernel
theorem dX9_readWhen_70 : decode cX9_readWhen 70 = .ok (.invokevirtual 272, 3) := by decide +kernel
theorem dX9_readWhen_73 : decode cX9_readWhen 73 = .ok (.ifCond .ne 4, 3) := by decide +kernel
theorem dX9_readWhen_76 : decode cX9_readWhen 76 = .ok (.return_, 1) := by decide +kernel
theorem dX9_readWhen_77 : decode cX9_readWhen 77 = .ok (.aload_n 0, 1) := by decide +kernel
theorem dX9_readWhen_78 : decode cX9_readWhen 78 = .ok (.getfield 45, 3) := by decide +kernel
theorem dX9_readWhen_81 : decode cX9_readWhen 81 = .ok (.iload_n 1, 1) := by decide +kernel
theorem dX9_readWhen_82 : decode cX9_readWhen 82 = .ok (.aload_n 0, 1) := by decide +kernel
theorem dX9_readWhen_83 : decode cX9_readWhen 83 = .ok (.ldc2_w 206, 3) := by decide +kernel
theorem dX9_readWhen_86 : decode cX9_readWhen 86 = .ok (.invokevirtual 263, 3) := by decide +kernel
theorem dX9_readWhen_89 : decode cX9_readWhen 89 = .ok (.ifCond .eq 7, 3) := by decide +kernel
theorem dX9_readWhen_92 : decode cX9_readWhen 92 = .ok (.iconst 0, 1) := by decide +kernel
theorem dX9_readWhen_93 : decode cX9_readWhen 93 = .ok (.goto 46, 3) := by decide +kernel
theorem dX9_readWhen_96 : decode cX9_readWhen 96 = .ok (.aload_n 0, 1) := by decide +kernel
theorem dX9_readWhen_97 : decode cX9_readWhen 97 = .ok (.ldc2_w 208, 3) := by decide +kernel
theorem dX9_readWhen_100 : decode cX9_readWhen 100 = .ok (.invokevirtual 263, 3) := by decide +kernel
theorem dX9_readWhen_103 : decode cX9_readWhen 103 = .ok (.ifCond .eq 7, 3) := by decide +kernel
theorem dX9_readWhen_106 : decode cX9_readWhen 106 = .ok (.iconst 1, 1) := by decide +kernel
theorem dX9_readWhen_107 : decode cX9_readWhen 107 = .ok (.goto 32, 3) := by decide +kernel
theorem dX9_readWhen_110 : decode cX9_readWhen 110 = .ok (.aload_n 0, 1) := by decide +kernel
theorem dX9_readWhen_111 : decode cX9_readWhen 111 = .ok (.ldc2_w 210, 3) := by decide +kernel
theorem dX9_readWhen_114 : decode cX9_readWhen 114 = .ok (.invokevirtual 263, 3) := by decide +kernel
theorem dX9_readWhen_117 : decode cX9_readWhen 117 = .ok (.ifCond .eq 7, 3) := by decide +kernel
theorem dX9_readWhen_120 : decode cX9_readWhen 120 = .ok (.iconst 2, 1) := by decide +kernel
theorem dX9_readWhen_121 : decode cX9_readWhen 121 = .ok (.goto 18, 3) := by decide +kernel
theorem dX9_readWhen_124 : decode cX9_readWhen 124 = .ok (.aload_n 0, 1) := by decide +kernel
theorem dX9_readWhen_125 : decode cX9_readWhen 125 = .ok (.ldc2_w 212, 3) := by decide +kernel
theorem dX9_readWhen_128 : decode cX9_readWhen 128 = .ok (.invokevirtual 263, 3) := by decide +kernel
theorem dX9_readWhen_131 : decode cX9_readWhen 131 = .ok (.ifCond .eq 7, 3) := by decide +kernel
theorem dX9_readWhen_134 : decode cX9_readWhen 134 = .ok (.iconst 3, 1) := by decide +kernel
theorem dX9_readWhen_135 : decode cX9_readWhen 135 = .ok (.goto 4, 3) := by decide +kernel
theorem dX9_readWhen_138 : decode cX9_readWhen 138 = .ok (.iconst (-1), 1) := by decide +kernel
theorem dX9_readWhen_139 : decode cX9_readWhen 139 = .ok (.iastore, 1) := by decide +kernel
theorem dX9_readWhen_140 : decode cX9_readWhen 140 = .ok (.aload_n 0, 1) := by decide +kernel
theorem dX9_readWhen_141 : decode cX9_readWhen 141 = .ok (.getfield 45, 3) := by decide +kernel
theorem dX9_readWhen_144 : decode cX9_readWhen 144 = .ok (.iload_n 1, 1) := by decide +kernel
theorem dX9_readWhen_145 : decode cX9_readWhen 145 = .ok (.iaload, 1) := by decide +kernel
theorem dX9_readWhen_146 : decode cX9_readWhen 146 = .ok (.ifCond .ge 7, 3) := by decide +kernel
theorem dX9_readWhen_149 : decode cX9_readWhen 149 = .ok (.aload_n 0, 1) := by decide +kernel
theorem dX9_readWhen_150 : decode cX9_readWhen 150 = .ok (.invokevirtual 269, 3) := by decide +kernel
theorem dX9_readWhen_153 : decode cX9_readWhen 153 = .ok (.aload_n 0, 1) := by decide +kernel
theorem dX9_readWhen_154 : decode cX9_readWhen 154 = .ok (.invokevirtual 272, 3) := by decide +kernel
theorem dX9_readWhen_157 : decode cX9_readWhen 157 = .ok (.ifCond .ne 4, 3) := by decide +kernel
theorem dX9_readWhen_160 : decode cX9_readWhen 160 = .ok (.return_, 1) := by decide +kernel
theorem dX9_readWhen_161 : decode cX9_readWhen 161 = .ok (.aload_n 0, 1) := by decide +kernel
theorem dX9_readWhen_162 : decode cX9_readWhen 162 = .ok (.invokevirtual 266, 3) := by decide +kernel
theorem dX9_readWhen_165 : decode cX9_readWhen 165 = .ok (.aload_n 0, 1) := by decide +kernel
theorem dX9_readWhen_166 : decode cX9_readWhen 166 = .ok (.getfield 48, 3) := by decide +kernel
theorem dX9_readWhen_169 : decode cX9_readWhen 169 = .ok (.iload_n 1, 1) := by decide +kernel
theorem dX9_readWhen_170 : decode cX9_readWhen 170 = .ok (.aload_n 0, 1) := by decide +kernel
theorem dX9_readWhen_171 : decode cX9_readWhen 171 = .ok (.getfield 45, 3) := by decide +kernel
theorem dX9_readWhen_174 : decode cX9_readWhen 174 = .ok (.iload_n 1, 1) := by decide +kernel
theorem dX9_readWhen_175 : decode cX9_readWhen 175 = .ok (.iaload, 1) := by decide +kernel
theorem dX9_readWhen_176 : decode cX9_readWhen 176 = .ok (.iconst 1, 1) := by decide +kernel
theorem dX9_readWhen_177 : decode cX9_readWhen 177 = .ok (.if_icmp .le 14, 3) := by decide +kernel
theorem dX9_readWhen_180 : decode cX9_readWhen 180 = .ok (.aload_n 0, 1) := by decide +kernel
theorem dX9_readWhen_181 : decode cX9_readWhen 181 = .ok (.iconst 0, 1) := by decide +kernel
theorem dX9_readWhen_182 : decode cX9_readWhen 182 = .ok (.ldc_w 276, 3) := by decide +kernel
theorem dX9_readWhen_185 : decode cX9_readWhen 185 = .ok (.invokevirtual 317, 3) := by decide +kernel
theorem dX9_readWhen_188 : decode cX9_readWhen 188 = .ok (.goto 4, 3) := by decide +kernel
theorem dX9_readWhen_191 : decode cX9_readWhen 191 = .ok (.iconst 0, 1) := by decide +kernel
theorem dX9_readWhen_192 : decode cX9_readWhen 192 = .ok (.iastore, 1) := by decide +kernel
theorem dX9_readWhen_193 : decode cX9_readWhen 193 = .ok (.return_, 1) := by decide +kernel
theorem dX9_put_0 : decode cX9_put 0 = .ok (.aload_n 0, 1) := by decide +kernel
theorem dX9_put_1 : decode cX9_put 1 = .ok (.getfield 66, 3) := by decide +kernel
theorem dX9_put_4 : decode cX9_put 4 = .ok (.sipush 700, 3) := by decide +kernel
theorem dX9_put_7 : decode cX9_put 7 = .ok (.aload_n 0, 1) := by decide +kernel
theorem dX9_put_8 : decode cX9_put 8 = .ok (.getfield 283, 3) := by decide +kernel
theorem dX9_put_11 : decode cX9_put 11 = .ok (.imul, 1) := by decide +kernel
theorem dX9_put_12 : decode cX9_put 12 = .ok (.aload_n 0, 1) := by decide +kernel
theorem dX9_put_13 : decode cX9_put 13 = .ok (.getfield 286, 3) := by decide +kernel
theorem dX9_put_16 : decode cX9_put 16 = .ok (.iadd, 1) := by decide +kernel
theorem dX9_put_17 : decode cX9_put 17 = .ok (.iload_n 1, 1) := by decide +kernel
theorem dX9_put_18 : decode cX9_put 18 = .ok (.iastore, 1) := by decide +kernel
theorem dX9_put_19 : decode cX9_put 19 = .ok (.aload_n 0, 1) := by decide +kernel
theorem dX9_put_20 : decode cX9_put 20 = .ok (.getfield 69, 3) := by decide +kernel
theorem dX9_put_23 : decode cX9_put 23 = .ok (.sipush 700, 3) := by decide +kernel
theorem dX9_put_26 : decode cX9_put 26 = .ok (.aload_n 0, 1) := by decide +kernel
theorem dX9_put_27 : decode cX9_put 27 = .ok (.getfield 283, 3) := by decide +kernel
theorem dX9_put_30 : decode cX9_put 30 = .ok (.imul, 1) := by decide +kernel
theorem dX9_put_31 : decode cX9_put 31 = .ok (.aload_n 0, 1) := by decide +kernel
theorem dX9_put_32 : decode cX9_put 32 = .ok (.getfield 286, 3) := by decide +kernel
theorem dX9_put_35 : decode cX9_put 35 = .ok (.iadd, 1) := by decide +kernel
theorem dX9_put_36 : decode cX9_put 36 = .ok (.iload_n 2, 1) := by decide +kernel
theorem dX9_put_37 : decode cX9_put 37 = .ok (.iastore, 1) := by decide +kernel
theorem dX9_put_38 : decode cX9_put 38 = .ok (.aload_n 0, 1) := by decide +kernel
theorem dX9_put_39 : decode cX9_put 39 = .ok (.dup, 1) := by decide +kernel
theorem dX9_put_40 : decode cX9_put 40 = .ok (.getfield 286, 3) := by decide +kernel
theorem dX9_put_43 : decode cX9_put 43 = .ok (.iconst 1, 1) := by decide +kernel
theorem dX9_put_44 : decode cX9_put 44 = .ok (.iadd, 1) := by decide +kernel
theorem dX9_put_45 : decode cX9_put 45 = .ok (.putfield 286, 3) := by decide +kernel
theorem dX9_put_48 : decode cX9_put 48 = .ok (.return_, 1) := by decide +kernel
theorem dX9_pile_0 : decode cX9_pile 0 = .ok (.aload_n 0, 1) := by decide +kernel
theorem dX9_pile_1 : decode cX9_pile 1 = .ok (.getfield 86, 3) := by decide +kernel
theorem dX9_pile_4 : decode cX9_pile 4 = .ok (.aload_n 0, 1) := by decide +kernel
theorem dX9_pile_5 : decode cX9_pile 5 = .ok (.getfield 328, 3) := by decide +kernel
theorem dX9_pile_8 : decode cX9_pile 8 = .ok (.iload_n 1, 1) := by decide +kernel
theorem dX9_pile_9 : decode cX9_pile 9 = .ok (.iastore, 1) := by decide +kernel
theorem dX9_pile_10 : decode cX9_pile 10 = .ok (.aload_n 0, 1) := by decide +kernel
theorem dX9_pile_11 : decode cX9_pile 11 = .ok (.dup, 1) := by decide +kernel
theorem dX9_pile_12 : decode cX9_pile 12 = .ok (.getfield 328, 3) := by decide +kernel
theorem dX9_pile_15 : decode cX9_pile 15 = .ok (.iconst 1, 1) := by decide +kernel
theorem dX9_pile_16 : decode cX9_pile 16 = .ok (.iadd, 1) := by decide +kernel
theorem dX9_pile_17 : decode cX9_pile 17 = .ok (.putfield 328, 3) := by decide +kernel
theorem dX9_pile_20 : decode cX9_pile 20 = .ok (.return_, 1) := by decide +kernel
theorem dX9_e_0 : decode cX9_e 0 = .ok (.aload_n 0, 1) := by decide +kernel
theorem dX9_e_1 : decode cX9_e 1 = .ok (.iconst 0, 1) := by decide +kernel
theorem dX9_e_2 : decode cX9_e 2 = .ok (.putfield 328, 3) := by decide +kernel
theorem dX9_e_5 : decode cX9_e 5 = .ok (.aload_n 0, 1) := by decide +kernel
theorem dX9_e_6 : decode cX9_e 6 = .ok (.iconst 0, 1) := by decide +kernel
theorem dX9_e_7 : decode cX9_e 7 = .ok (.putfield 331, 3) := by decide +kernel
theorem dX9_e_10 : decode cX9_e 10 = .ok (.aload_n 0, 1) := by decide +kernel
theorem dX9_e_11 : decode cX9_e 11 = .ok (.iconst 5, 1) := by decide +kernel
theorem dX9_e_12 : decode cX9_e 12 = .ok (.invokevirtual 334, 3) := by decide +kernel
theorem dX9_e_15 : decode cX9_e 15 = .ok (.iconst 1, 1) := by decide +kernel
theorem dX9_e_16 : decode cX9_e 16 = .ok (.istore_n 1, 1) := by decide +kernel
theorem dX9_e_17 : decode cX9_e 17 = .ok (.aload_n 0, 1) := by decide +kernel
theorem dX9_e_18 : decode cX9_e 18 = .ok (.invokevirtual 272, 3) := by decide +kernel
theorem dX9_e_21 : decode cX9_e 21 = .ok (.ifCond .eq 29, 3) := by decide +kernel
theorem dX9_e_24 : decode cX9_e 24 = .ok (.aload_n 0, 1) := by decide +kernel
theorem dX9_e_25 : decode cX9_e 25 = .ok (.getfield 328, 3) := by decide +kernel
theorem dX9_e_28 : decode cX9_e 28 = .ok (.ifCond .le 22, 3) := by decide +kernel
theorem dX9_e_31 : decode cX9_e 31 = .ok (.iload_n 1, 1) := by decide +kernel
theorem dX9_e_32 : decode cX9_e 32 = .ok (.ifCond .eq 10, 3) := by decide +kernel
theorem dX9_e_35 : decode cX9_e 35 = .ok (.aload_n 0, 1) := by decide +kernel
theorem dX9_e_36 : decode cX9_e 36 = .ok (.invokevirtual 338, 3) := by decide +kernel
theorem dX9_e_39 : decode cX9_e 39 = .ok (.goto 7, 3) := by decide +kernel
theorem dX9_e_42 : decode cX9_e 42 = .ok (.aload_n 0, 1) := by decide +kernel
theorem dX9_e_43 : decode cX9_e 43 = .ok (.invokevirtual 341, 3) := by decide +kernel
theorem dX9_e_46 : decode cX9_e 46 = .ok (.istore_n 1, 1) := by decide +kernel
theorem dX9_e_47 : decode cX9_e 47 = .ok (.goto (-30), 3) := by decide +kernel
theorem dX9_e_50 : decode cX9_e 50 = .ok (.return_, 1) := by decide +kernel
theorem dX9_one_0 : decode cX9_one 0 = .ok (.aload_n 0, 1) := by decide +kernel
theorem dX9_one_1 : decode cX9_one 1 = .ok (.bipush 40, 2) := by decide +kernel
theorem dX9_one_3 : decode cX9_one 3 = .ok (.invokevirtual 310, 3) := by decide +kernel
theorem dX9_one_6 : decode cX9_one 6 = .ok (.ifCond .ne 13, 3) := by decide +kernel
theorem dX9_one_9 : decode cX9_one 9 = .ok (.aload_n 0, 1) := by decide +kernel
theorem dX9_one_10 : decode cX9_one 10 = .ok (.ldc2_w 226, 3) := by decide +kernel
theorem dX9_one_13 : decode cX9_one 13 = .ok (.invokevirtual 263, 3) := by decide +kernel
theorem dX9_one_16 : decode cX9_one 16 = .ok (.ifCond .eq 50, 3) := by decide +kernel
theorem dX9_one_19 : decode cX9_one 19 = .ok (.aload_n 0, 1) := by decide +kernel
theorem dX9_one_20 : decode cX9_one 20 = .ok (.aload_n 0, 1) := by decide +kernel
theorem dX9_one_21 : decode cX9_one 21 = .ok (.bipush 40, 2) := by decide +kernel
theorem dX9_one_23 : decode cX9_one 23 = .ok (.invokevirtual 310, 3) := by decide +kernel
theorem dX9_one_26 : decode cX9_one 26 = .ok (.ifCond .eq 7, 3) := by decide +kernel
theorem dX9_one_29 : decode cX9_one 29 = .ok (.iconst 4, 1) := by decide +kernel
theorem dX9_one_30 : decode cX9_one 30 = .ok (.goto 4, 3) := by decide +kernel
theorem dX9_one_33 : decode cX9_one 33 = .ok (.iconst 3, 1) := by decide +kernel
theorem dX9_one_34 : decode cX9_one 34 = .ok (.invokevirtual 334, 3) := by decide +kernel
theorem dX9_one_37 : decode cX9_one 37 = .ok (.aload_n 0, 1) := by decide +kernel
theorem dX9_one_38 : decode cX9_one 38 = .ok (.invokevirtual 266, 3) := by decide +kernel
theorem dX9_one_41 : decode cX9_one 41 = .ok (.aload_n 0, 1) := by decide +kernel
theorem dX9_one_42 : decode cX9_one 42 = .ok (.dup, 1) := by decide +kernel
theorem dX9_one_43 : decode cX9_one 43 = .ok (.getfield 331, 3) := by decide +kernel
theorem dX9_one_46 : decode cX9_one 46 = .ok (.iconst 1, 1) := by decide +kernel
theorem dX9_one_47 : decode cX9_one 47 = .ok (.iadd, 1) := by decide +kernel
theorem dX9_one_48 : decode cX9_one 48 = .ok (.putfield 331, 3) := by decide +kernel
theorem dX9_one_51 : decode cX9_one 51 = .ok (.aload_n 0, 1) := by decide +kernel
theorem dX9_one_52 : decode cX9_one 52 = .ok (.getfield 331, 3) := by decide +kernel
theorem dX9_one_55 : decode cX9_one 55 = .ok (.bipush 6, 2) := by decide +kernel
theorem dX9_one_57 : decode cX9_one 57 = .ok (.if_icmp .lt 7, 3) := by decide +kernel
theorem dX9_one_60 : decode cX9_one 60 = .ok (.aload_n 0, 1) := by decide +kernel
theorem dX9_one_61 : decode cX9_one 61 = .ok (.invokevirtual 269, 3) := by decide +kernel
theorem dX9_one_64 : decode cX9_one 64 = .ok (.iconst 1, 1) := by decide +kernel
theorem dX9_one_65 : decode cX9_one 65 = .ok (.ireturn, 1) := by decide +kernel
theorem dX9_one_66 : decode cX9_one 66 = .ok (.aload_n 0, 1) := by decide +kernel
theorem dX9_one_67 : decode cX9_one 67 = .ok (.invokevirtual 344, 3) := by decide +kernel
theorem dX9_one_70 : decode cX9_one 70 = .ok (.aload_n 0, 1) := by decide +kernel
theorem dX9_one_71 : decode cX9_one 71 = .ok (.invokevirtual 272, 3) := by decide +kernel
theorem dX9_one_74 : decode cX9_one 74 = .ok (.ifCond .ne 5, 3) := by decide +kernel
theorem dX9_one_77 : decode cX9_one 77 = .ok (.iconst 1, 1) := by decide +kernel
theorem dX9_one_78 : decode cX9_one 78 = .ok (.ireturn, 1) := by decide +kernel
theorem dX9_one_79 : decode cX9_one 79 = .ok (.aload_n 0, 1) := by decide +kernel
theorem dX9_one_80 : decode cX9_one 80 = .ok (.bipush 60, 2) := by decide +kernel
theorem dX9_one_82 : decode cX9_one 82 = .ok (.invokevirtual 310, 3) := by decide +kernel
theorem dX9_one_85 : decode cX9_one 85 = .ok (.ifCond .ne 23, 3) := by decide +kernel
theorem dX9_one_88 : decode cX9_one 88 = .ok (.aload_n 0, 1) := by decide +kernel
theorem dX9_one_89 : decode cX9_one 89 = .ok (.bipush 62, 2) := by decide +kernel
theorem dX9_one_91 : decode cX9_one 91 = .ok (.invokevirtual 310, 3) := by decide +kernel
theorem dX9_one_94 : decode cX9_one 94 = .ok (.ifCond .ne 14, 3) := by decide +kernel
theorem dX9_one_97 : decode cX9_one 97 = .ok (.aload_n 0, 1) := by decide +kernel
theorem dX9_one_98 : decode cX9_one 98 = .ok (.bipush 61, 2) := by decide +kernel
theorem dX9_one_100 : decode cX9_one 100 = .ok (.invokevirtual 310, 3) := by decide +kernel
theorem dX9_one_103 : decode cX9_one 103 = .ok (.ifCond .ne 5, 3) := by decide +kernel
theorem dX9_one_106 : decode cX9_one 106 = .ok (.iconst 0, 1) := by decide +kernel
theorem dX9_one_107 : decode cX9_one 107 = .ok (.ireturn, 1) := by decide +kernel
theorem dX9_one_108 : decode cX9_one 108 = .ok (.aload_n 0, 1) := by decide +kernel
theorem dX9_one_109 : decode cX9_one 109 = .ok (.aload_n 0, 1) := by decide +kernel
theorem dX9_one_110 : decode cX9_one 110 = .ok (.getfield 231, 3) := by decide +kernel
theorem dX9_one_113 : decode cX9_one 113 = .ok (.invokevirtual 234, 3) := by decide +kernel
theorem dX9_one_116 : decode cX9_one 116 = .ok (.istore_n 1, 1) := by decide +kernel
theorem dX9_one_117 : decode cX9_one 117 = .ok (.aload_n 0, 1) := by decide +kernel
theorem dX9_one_118 : decode cX9_one 118 = .ok (.invokevirtual 266, 3) := by decide +kernel
theorem dX9_one_121 : decode cX9_one 121 = .ok (.aload_n 0, 1) := by decide +kernel
theorem dX9_one_122 : decode cX9_one 122 = .ok (.invokevirtual 344, 3) := by decide +kernel
theorem dX9_one_125 : decode cX9_one 125 = .ok (.aload_n 0, 1) := by decide +kernel
theorem dX9_one_126 : decode cX9_one 126 = .ok (.invokevirtual 272, 3) := by decide +kernel
theorem dX9_one_129 : decode cX9_one 129 = .ok (.ifCond .eq 9, 3) := by decide +kernel
theorem dX9_one_132 : decode cX9_one 132 = .ok (.aload_n 0, 1) := by decide +kernel
theorem dX9_one_133 : decode cX9_one 133 = .ok (.iload_n 1, 1) := by decide +kernel
theorem dX9_one_134 : decode cX9_one 134 = .ok (.iconst 0, 1) := by decide +kernel
theorem dX9_one_135 : decode cX9_one 135 = .ok (.invokevirtual 347, 3) := by decide +kernel
theorem dX9_one_138 : decode cX9_one 138 = .ok (.iconst 0, 1) := by decide +kernel
theorem dX9_one_139 : decode cX9_one 139 = .ok (.ireturn, 1) := by decide +kernel
theorem dX9_side_0 : decode cX9_side 0 = .ok (.aload_n 0, 1) := by decide +kernel
theorem dX9_side_1 : decode cX9_side 1 = .ok (.getfield 238, 3) := by decide +kernel
theorem dX9_side_4 : decode cX9_side 4 = .ok (.iconst 3, 1) := by decide +kernel
theorem dX9_side_5 : decode cX9_side 5 = .ok (.if_icmp .ne 13, 3) := by decide +kernel
theorem dX9_side_8 : decode cX9_side 8 = .ok (.aload_n 0, 1) := by decide +kernel
theorem dX9_side_9 : decode cX9_side 9 = .ok (.getfield 245, 3) := by decide +kernel
theorem dX9_side_12 : decode cX9_side 12 = .ok (.invokestatic 196, 3) := by decide +kernel
theorem dX9_side_15 : decode cX9_side 15 = .ok (.goto 4, 3) := by decide +kernel
theorem dX9_side_18 : decode cX9_side 18 = .ok (.iconst (-1), 1) := by decide +kernel
theorem dX9_side_19 : decode cX9_side 19 = .ok (.istore_n 1, 1) := by decide +kernel
theorem dX9_side_20 : decode cX9_side 20 = .ok (.aload_n 0, 1) := by decide +kernel
theorem dX9_side_21 : decode cX9_side 21 = .ok (.getfield 238, 3) := by decide +kernel
theorem dX9_side_24 : decode cX9_side 24 = .ok (.iconst 4, 1) := by decide +kernel
theorem dX9_side_25 : decode cX9_side 25 = .ok (.if_icmp .eq 7, 3) := by decide +kernel
theorem dX9_side_28 : decode cX9_side 28 = .ok (.iload_n 1, 1) := by decide +kernel
theorem dX9_side_29 : decode cX9_side 29 = .ok (.ifCond .lt 12, 3) := by decide +kernel
theorem dX9_side_32 : decode cX9_side 32 = .ok (.aload_n 0, 1) := by decide +kernel
theorem dX9_side_33 : decode cX9_side 33 = .ok (.getfield 289, 3) := by decide +kernel
theorem dX9_side_36 : decode cX9_side 36 = .ok (.bipush 60, 2) := by decide +kernel
theorem dX9_side_38 : decode cX9_side 38 = .ok (.if_icmp .ne 7, 3) := by decide +kernel
theorem dX9_side_41 : decode cX9_side 41 = .ok (.aload_n 0, 1) := by decide +kernel
theorem dX9_side_42 : decode cX9_side 42 = .ok (.invokevirtual 269, 3) := by decide +kernel
theorem dX9_side_45 : decode cX9_side 45 = .ok (.aload_n 0, 1) := by decide +kernel
theorem dX9_side_46 : decode cX9_side 46 = .ok (.invokevirtual 272, 3) := by decide +kernel
theorem dX9_side_49 : decode cX9_side 49 = .ok (.ifCond .ne 4, 3) := by decide +kernel
theorem dX9_side_52 : decode cX9_side 52 = .ok (.return_, 1) := by decide +kernel
theorem dX9_side_53 : decode cX9_side 53 = .ok (.aload_n 0, 1) := by decide +kernel
theorem dX9_side_54 : decode cX9_side 54 = .ok (.dup, 1) := by decide +kernel
theorem dX9_side_55 : decode cX9_side 55 = .ok (.getfield 289, 3) := by decide +kernel
theorem dX9_side_58 : decode cX9_side 58 = .ok (.iconst 1, 1) := by decide +kernel
theorem dX9_side_59 : decode cX9_side 59 = .ok (.iadd, 1) := by decide +kernel
theorem dX9_side_60 : decode cX9_side 60 = .ok (.putfield 289, 3) := by decide +kernel
theorem dX9_side_63 : decode cX9_side 63 = .ok (.aload_n 0, 1) := by decide +kernel
theorem dX9_side_64 : decode cX9_side 64 = .ok (.iload_n 1, 1) := by decide +kernel
theorem dX9_side_65 : decode cX9_side 65 = .ok (.ifCond .ge 8, 3) := by decide +kernel
theorem dX9_side_68 : decode cX9_side 68 = .ok (.bipush 110, 2) := by decide +kernel
theorem dX9_side_70 : decode cX9_side 70 = .ok (.goto 5, 3) := by decide +kernel
theorem dX9_side_73 : decode cX9_side 73 = .ok (.bipush 119, 2) := by decide +kernel
theorem dX9_side_75 : decode cX9_side 75 = .ok (.iload_n 1, 1) := by decide +kernel
theorem dX9_side_76 : decode cX9_side 76 = .ok (.ifCond .ge 10, 3) := by decide +kernel
theorem dX9_side_79 : decode cX9_side 79 = .ok (.aload_n 0, 1) := by decide +kernel
theorem dX9_side_80 : decode cX9_side 80 = .ok (.getfield 256, 3) := by decide +kernel
theorem dX9_side_83 : decode cX9_side 83 = .ok (.goto 4, 3) := by decide +kernel
theorem dX9_side_86 : decode cX9_side 86 = .ok (.iload_n 1, 1) := by decide +kernel
theorem dX9_side_87 : decode cX9_side 87 = .ok (.invokevirtual 347, 3) := by decide +kernel
theorem dX9_side_90 : decode cX9_side 90 = .ok (.aload_n 0, 1) := by decide +kernel
theorem dX9_side_91 : decode cX9_side 91 = .ok (.invokevirtual 266, 3) := by decide +kernel
theorem dX9_side_94 : decode cX9_side 94 = .ok (.return_, 1) := by decide +kernel
theorem dX9_behind_0 : decode cX9_behind 0 = .ok (.aload_n 0, 1) := by decide +kernel
theorem dX9_behind_1 : decode cX9_behind 1 = .ok (.ldc2_w 224, 3) := by decide +kernel
theorem dX9_behind_4 : decode cX9_behind 4 = .ok (.invokevirtual 263, 3) := by decide +kernel
theorem dX9_behind_7 : decode cX9_behind 7 = .ok (.ifCond .eq 7, 3) := by decide +kernel
theorem dX9_behind_10 : decode cX9_behind 10 = .ok (.iconst 2, 1) := by decide +kernel
theorem dX9_behind_11 : decode cX9_behind 11 = .ok (.goto 18, 3) := by decide +kernel
theorem dX9_behind_14 : decode cX9_behind 14 = .ok (.aload_n 0, 1) := by decide +kernel
theorem dX9_behind_15 : decode cX9_behind 15 = .ok (.ldc2_w 222, 3) := by decide +kernel
theorem dX9_behind_18 : decode cX9_behind 18 = .ok (.invokevirtual 263, 3) := by decide +kernel
theorem dX9_behind_21 : decode cX9_behind 21 = .ok (.ifCond .eq 7, 3) := by decide +kernel
theorem dX9_behind_24 : decode cX9_behind 24 = .ok (.iconst 1, 1) := by decide +kernel
theorem dX9_behind_25 : decode cX9_behind 25 = .ok (.goto 4, 3) := by decide +kernel
theorem dX9_behind_28 : decode cX9_behind 28 = .ok (.iconst 0, 1) := by decide +kernel
theorem dX9_behind_29 : decode cX9_behind 29 = .ok (.istore_n 1, 1) := by decide +kernel
theorem dX9_behind_30 : decode cX9_behind 30 = .ok (.aload_n 0, 1) := by decide +kernel
theorem dX9_behind_31 : decode cX9_behind 31 = .ok (.getfield 86, 3) := by decide +kernel
theorem dX9_behind_34 : decode cX9_behind 34 = .ok (.aload_n 0, 1) := by decide +kernel
theorem dX9_behind_35 : decode cX9_behind 35 = .ok (.getfield 328, 3) := by decide +kernel
theorem dX9_behind_38 : decode cX9_behind 38 = .ok (.iconst 1, 1) := by decide +kernel
theorem dX9_behind_39 : decode cX9_behind 39 = .ok (.isub, 1) := by decide +kernel
theorem dX9_behind_40 : decode cX9_behind 40 = .ok (.iaload, 1) := by decide +kernel
theorem dX9_behind_41 : decode cX9_behind 41 = .ok (.iconst 3, 1) := by decide +kernel
theorem dX9_behind_42 : decode cX9_behind 42 = .ok (.if_icmp .gt 97, 3) := by decide +kernel
theorem dX9_behind_45 : decode cX9_behind 45 = .ok (.aload_n 0, 1) := by decide +kernel
theorem dX9_behind_46 : decode cX9_behind 46 = .ok (.getfield 86, 3) := by decide +kernel
theorem dX9_behind_49 : decode cX9_behind 49 = .ok (.aload_n 0, 1) := by decide +kernel
theorem dX9_behind_50 : decode cX9_behind 50 = .ok (.getfield 328, 3) := by decide +kernel
theorem dX9_behind_53 : decode cX9_behind 53 = .ok (.iconst 1, 1) := by decide +kernel
theorem dX9_behind_54 : decode cX9_behind 54 = .ok (.isub, 1) := by decide +kernel
theorem dX9_behind_55 : decode cX9_behind 55 = .ok (.iaload, 1) := by decide +kernel
theorem dX9_behind_56 : decode cX9_behind 56 = .ok (.iload_n 1, 1) := by decide +kernel
theorem dX9_behind_57 : decode cX9_behind 57 = .ok (.if_icmp .lt 82, 3) := by decide +kernel
theorem dX9_behind_60 : decode cX9_behind 60 = .ok (.aload_n 0, 1) := by decide +kernel
theorem dX9_behind_61 : decode cX9_behind 61 = .ok (.dup, 1) := by decide +kernel
theorem dX9_behind_62 : decode cX9_behind 62 = .ok (.getfield 328, 3) := by decide +kernel
theorem dX9_behind_65 : decode cX9_behind 65 = .ok (.iconst 1, 1) := by decide +kernel
theorem dX9_behind_66 : decode cX9_behind 66 = .ok (.isub, 1) := by decide +kernel
theorem dX9_behind_67 : decode cX9_behind 67 = .ok (.putfield 328, 3) := by decide +kernel
theorem dX9_behind_70 : decode cX9_behind 70 = .ok (.aload_n 0, 1) := by decide +kernel
theorem dX9_behind_71 : decode cX9_behind 71 = .ok (.getfield 86, 3) := by decide +kernel
theorem dX9_behind_74 : decode cX9_behind 74 = .ok (.aload_n 0, 1) := by decide +kernel
theorem dX9_behind_75 : decode cX9_behind 75 = .ok (.getfield 328, 3) := by decide +kernel
theorem dX9_behind_78 : decode cX9_behind 78 = .ok (.iaload, 1) := by decide +kernel
theorem dX9_behind_79 : decode cX9_behind 79 = .ok (.iconst 3, 1) := by decide +kernel
theorem dX9_behind_80 : decode cX9_behind 80 = .ok (.if_icmp .ne 13, 3) := by decide +kernel
theorem dX9_behind_83 : decode cX9_behind 83 = .ok (.aload_n 0, 1) := by decide +kernel
theorem dX9_behind_84 : decode cX9_behind 84 = .ok (.dup, 1) := by decide +kernel
theorem dX9_behind_85 : decode cX9_behind 85 = .ok (.getfield 331, 3) := by decide +kernel
theorem dX9_behind_88 : decode cX9_behind 88 = .ok (.iconst 1, 1) := by decide +kernel
theorem dX9_behind_89 : decode cX9_behind 89 = .ok (.isub, 1) := by decide +kernel
theorem dX9_behind_90 : decode cX9_behind 90 = .ok (.putfield 331, 3) := by decide +kernel
theorem dX9_behind_93 : decode cX9_behind 93 = .ok (.aload_n 0, 1) := by decide +kernel
theorem dX9_behind_94 : decode cX9_behind 94 = .ok (.aload_n 0, 1) := by decide +kernel
theorem dX9_behind_95 : decode cX9_behind 95 = .ok (.getfield 86, 3) := by decide +kernel
theorem dX9_behind_98 : decode cX9_behind 98 = .ok (.aload_n 0, 1) := by decide +kernel
theorem dX9_behind_99 : decode cX9_behind 99 = .ok (.getfield 328, 3) := by decide +kernel
theorem dX9_behind_102 : decode cX9_behind 102 = .ok (.iaload, 1) := by decide +kernel
theorem dX9_behind_103 : decode cX9_behind 103 = .ok (.iconst 3, 1) := by decide +kernel
theorem dX9_behind_104 : decode cX9_behind 104 = .ok (.if_icmp .ne 8, 3) := by decide +kernel
theorem dX9_behind_107 : decode cX9_behind 107 = .ok (.bipush 126, 2) := by decide +kernel
theorem dX9_behind_109 : decode cX9_behind 109 = .ok (.goto 23, 3) := by decide +kernel
theorem dX9_behind_112 : decode cX9_behind 112 = .ok (.aload_n 0, 1) := by decide +kernel
theorem dX9_behind_113 : decode cX9_behind 113 = .ok (.getfield 86, 3) := by decide +kernel
theorem dX9_behind_116 : decode cX9_behind 116 = .ok (.aload_n 0, 1) := by decide +kernel
theorem dX9_behind_117 : decode cX9_behind 117 = .ok (.getfield 328, 3) := by decide +kernel
theorem dX9_behind_120 : decode cX9_behind 120 = .ok (.iaload, 1) := by decide +kernel
theorem dX9_behind_121 : decode cX9_behind 121 = .ok (.iconst 2, 1) := by decide +kernel
theorem dX9_behind_122 : decode cX9_behind 122 = .ok (.if_icmp .ne 8, 3) := by decide +kernel
theorem dX9_behind_125 : decode cX9_behind 125 = .ok (.bipush 38, 2) := by decide +kernel
theorem dX9_behind_127 : decode cX9_behind 127 = .ok (.goto 5, 3) := by decide +kernel
theorem dX9_behind_130 : decode cX9_behind 130 = .ok (.bipush 124, 2) := by decide +kernel
theorem dX9_behind_132 : decode cX9_behind 132 = .ok (.iconst 0, 1) := by decide +kernel
theorem dX9_behind_133 : decode cX9_behind 133 = .ok (.invokevirtual 347, 3) := by decide +kernel
theorem dX9_behind_136 : decode cX9_behind 136 = .ok (.goto (-106), 3) := by decide +kernel
theorem dX9_behind_139 : decode cX9_behind 139 = .ok (.iload_n 1, 1) := by decide +kernel
theorem dX9_behind_140 : decode cX9_behind 140 = .ok (.ifCond .le 14, 3) := by decide +kernel
theorem dX9_behind_143 : decode cX9_behind 143 = .ok (.aload_n 0, 1) := by decide +kernel
theorem dX9_behind_144 : decode cX9_behind 144 = .ok (.iload_n 1, 1) := by decide +kernel
theorem dX9_behind_145 : decode cX9_behind 145 = .ok (.invokevirtual 334, 3) := by decide +kernel
theorem dX9_behind_148 : decode cX9_behind 148 = .ok (.aload_n 0, 1) := by decide +kernel
theorem dX9_behind_149 : decode cX9_behind 149 = .ok (.invokevirtual 266, 3) := by decide +kernel
theorem dX9_behind_152 : decode cX9_behind 152 = .ok (.iconst 1, 1) := by decide +kernel
theorem dX9_behind_153 : decode cX9_behind 153 = .ok (.ireturn, 1) := by decide +kernel
theorem dX9_behind_154 : decode cX9_behind 154 = .ok (.aload_n 0, 1) := by decide +kernel
theorem dX9_behind_155 : decode cX9_behind 155 = .ok (.dup, 1) := by decide +kernel
theorem dX9_behind_156 : decode cX9_behind 156 = .ok (.getfield 328, 3) := by decide +kernel
theorem dX9_behind_159 : decode cX9_behind 159 = .ok (.iconst 1, 1) := by decide +kernel
theorem dX9_behind_160 : decode cX9_behind 160 = .ok (.isub, 1) := by decide +kernel
theorem dX9_behind_161 : decode cX9_behind 161 = .ok (.putfield 328, 3) := by decide +kernel
theorem dX9_behind_164 : decode cX9_behind 164 = .ok (.aload_n 0, 1) := by decide +kernel
theorem dX9_behind_165 : decode cX9_behind 165 = .ok (.getfield 86, 3) := by decide +kernel
theorem dX9_behind_168 : decode cX9_behind 168 = .ok (.aload_n 0, 1) := by decide +kernel
theorem dX9_behind_169 : decode cX9_behind 169 = .ok (.getfield 328, 3) := by decide +kernel
theorem dX9_behind_172 : decode cX9_behind 172 = .ok (.iaload, 1) := by decide +kernel
theorem dX9_behind_173 : decode cX9_behind 173 = .ok (.iconst 4, 1) := by decide +kernel
theorem dX9_behind_174 : decode cX9_behind 174 = .ok (.if_icmp .ne 33, 3) := by decide +kernel
theorem dX9_behind_177 : decode cX9_behind 177 = .ok (.aload_n 0, 1) := by decide +kernel
theorem dX9_behind_178 : decode cX9_behind 178 = .ok (.dup, 1) := by decide +kernel
theorem dX9_behind_179 : decode cX9_behind 179 = .ok (.getfield 331, 3) := by decide +kernel
theorem dX9_behind_182 : decode cX9_behind 182 = .ok (.iconst 1, 1) := by decide +kernel
theorem dX9_behind_183 : decode cX9_behind 183 = .ok (.isub, 1) := by decide +kernel
theorem dX9_behind_184 : decode cX9_behind 184 = .ok (.putfield 331, 3) := by decide +kernel
theorem dX9_behind_187 : decode cX9_behind 187 = .ok (.aload_n 0, 1) := by decide +kernel
theorem dX9_behind_188 : decode cX9_behind 188 = .ok (.bipush 41, 2) := by decide +kernel
theorem dX9_behind_190 : decode cX9_behind 190 = .ok (.invokevirtual 310, 3) := by decide +kernel
theorem dX9_behind_193 : decode cX9_behind 193 = .ok (.ifCond .eq 10, 3) := by decide +kernel
theorem dX9_behind_196 : decode cX9_behind 196 = .ok (.aload_n 0, 1) := by decide +kernel
theorem dX9_behind_197 : decode cX9_behind 197 = .ok (.invokevirtual 266, 3) := by decide +kernel
theorem dX9_behind_200 : decode cX9_behind 200 = .ok (.goto 7, 3) := by decide +kernel
theorem dX9_behind_203 : decode cX9_behind 203 = .ok (.aload_n 0, 1) := by decide +kernel
theorem dX9_behind_204 : decode cX9_behind 204 = .ok (.invokevirtual 269, 3) := by decide +kernel
theorem dX9_behind_207 : decode cX9_behind 207 = .ok (.iconst 0, 1) := by decide +kernel
theorem dX9_behind_208 : decode cX9_behind 208 = .ok (.ireturn, 1) := by decide +kernel
theorem dX9_fault_0 : decode cX9_fault 0 = .ok (.iload_n 1, 1) := by decide +kernel
theorem dX9_fault_1 : decode cX9_fault 1 = .ok (.ifCond .ne 10, 3) := by decide +kernel
theorem dX9_fault_4 : decode cX9_fault 4 = .ok (.aload_n 0, 1) := by decide +kernel
theorem dX9_fault_5 : decode cX9_fault 5 = .ok (.getfield 179, 3) := by decide +kernel
theorem dX9_fault_8 : decode cX9_fault 8 = .ok (.goto 16, 3) := by decide +kernel
theorem dX9_fault_11 : decode cX9_fault 11 = .ok (.iload_n 1, 1) := by decide +kernel
theorem dX9_fault_12 : decode cX9_fault 12 = .ok (.iconst 1, 1) := by decide +kernel
theorem dX9_fault_13 : decode cX9_fault 13 = .ok (.if_icmp .ne 10, 3) := by decide +kernel
theorem dX9_fault_16 : decode cX9_fault 16 = .ok (.aload_n 0, 1) := by decide +kernel
theorem dX9_fault_17 : decode cX9_fault 17 = .ok (.getfield 16, 3) := by decide +kernel
theorem dX9_fault_20 : decode cX9_fault 20 = .ok (.goto 4, 3) := by decide +kernel
theorem dX9_fault_23 : decode cX9_fault 23 = .ok (.iconst (-1), 1) := by decide +kernel
theorem dX9_fault_24 : decode cX9_fault 24 = .ok (.ireturn, 1) := by decide +kernel
theorem dX9_lawFor_0 : decode cX9_lawFor 0 = .ok (.iconst (-1), 1) := by decide +kernel
theorem dX9_lawFor_1 : decode cX9_lawFor 1 = .ok (.istore_n 3, 1) := by decide +kernel
theorem dX9_lawFor_2 : decode cX9_lawFor 2 = .ok (.iconst 0, 1) := by decide +kernel
theorem dX9_lawFor_3 : decode cX9_lawFor 3 = .ok (.istore 4, 2) := by decide +kernel
theorem dX9_lawFor_5 : decode cX9_lawFor 5 = .ok (.iload 4, 2) := by decide +kernel
theorem dX9_lawFor_7 : decode cX9_lawFor 7 = .ok (.aload_n 0, 1) := by decide +kernel
theorem dX9_lawFor_8 : decode cX9_lawFor 8 = .ok (.getfield 280, 3) := by decide +kernel
theorem dX9_lawFor_11 : decode cX9_lawFor 11 = .ok (.if_icmp .ge 54, 3) := by decide +kernel
theorem dX9_lawFor_14 : decode cX9_lawFor 14 = .ok (.aload_n 0, 1) := by decide +kernel
theorem dX9_lawFor_15 : decode cX9_lawFor 15 = .ok (.getfield 20, 3) := by decide +kernel
theorem dX9_lawFor_18 : decode cX9_lawFor 18 = .ok (.iload 4, 2) := by decide +kernel
theorem dX9_lawFor_20 : decode cX9_lawFor 20 = .ok (.iaload, 1) := by decide +kernel
theorem dX9_lawFor_21 : decode cX9_lawFor 21 = .ok (.iload_n 1, 1) := by decide +kernel
theorem dX9_lawFor_22 : decode cX9_lawFor 22 = .ok (.if_icmp .ne 37, 3) := by decide +kernel
theorem dX9_lawFor_25 : decode cX9_lawFor 25 = .ok (.aload_n 0, 1) := by decide +kernel
theorem dX9_lawFor_26 : decode cX9_lawFor 26 = .ok (.getfield 24, 3) := by decide +kernel
theorem dX9_lawFor_29 : decode cX9_lawFor 29 = .ok (.iload 4, 2) := by decide +kernel
theorem dX9_lawFor_31 : decode cX9_lawFor 31 = .ok (.iaload, 1) := by decide +kernel
theorem dX9_lawFor_32 : decode cX9_lawFor 32 = .ok (.iload_n 2, 1) := by decide +kernel
theorem dX9_lawFor_33 : decode cX9_lawFor 33 = .ok (.if_icmp .gt 26, 3) := by decide +kernel
theorem dX9_lawFor_36 : decode cX9_lawFor 36 = .ok (.iload_n 3, 1) := by decide +kernel
theorem dX9_lawFor_37 : decode cX9_lawFor 37 = .ok (.ifCond .lt 19, 3) := by decide +kernel
theorem dX9_lawFor_40 : decode cX9_lawFor 40 = .ok (.aload_n 0, 1) := by decide +kernel
theorem dX9_lawFor_41 : decode cX9_lawFor 41 = .ok (.getfield 24, 3) := by decide +kernel
theorem dX9_lawFor_44 : decode cX9_lawFor 44 = .ok (.iload 4, 2) := by decide +kernel
theorem dX9_lawFor_46 : decode cX9_lawFor 46 = .ok (.iaload, 1) := by decide +kernel
theorem dX9_lawFor_47 : decode cX9_lawFor 47 = .ok (.aload_n 0, 1) := by decide +kernel
theorem dX9_lawFor_48 : decode cX9_lawFor 48 = .ok (.getfield 24, 3) := by decide +kernel
theorem dX9_lawFor_51 : decode cX9_lawFor 51 = .ok (.iload_n 3, 1) := by decide +kernel
theorem dX9_lawFor_52 : decode cX9_lawFor 52 = .ok (.iaload, 1) := by decide +kernel
theorem dX9_lawFor_53 : decode cX9_lawFor 53 = .ok (.if_icmp .lt 6, 3) := by decide +kernel
theorem dX9_lawFor_56 : decode cX9_lawFor 56 = .ok (.iload 4, 2) := by decide +kernel
theorem dX9_lawFor_58 : decode cX9_lawFor 58 = .ok (.istore_n 3, 1) := by decide +kernel
theorem dX9_lawFor_59 : decode cX9_lawFor 59 = .ok (.iinc 4 1, 3) := by decide +kernel
theorem dX9_lawFor_62 : decode cX9_lawFor 62 = .ok (.goto (-57), 3) := by decide +kernel
theorem dX9_lawFor_65 : decode cX9_lawFor 65 = .ok (.iload_n 3, 1) := by decide +kernel
theorem dX9_lawFor_66 : decode cX9_lawFor 66 = .ok (.ireturn, 1) := by decide +kernel
theorem dX9_lawOn_0 : decode cX9_lawOn 0 = .ok (.iload_n 1, 1) := by decide +kernel
theorem dX9_lawOn_1 : decode cX9_lawOn 1 = .ok (.ifCond .lt 8, 3) := by decide +kernel
theorem dX9_lawOn_4 : decode cX9_lawOn 4 = .ok (.iload_n 1, 1) := by decide +kernel
theorem dX9_lawOn_5 : decode cX9_lawOn 5 = .ok (.iconst 4, 1) := by decide +kernel
theorem dX9_lawOn_6 : decode cX9_lawOn 6 = .ok (.if_icmp .lt 7, 3) := by decide +kernel
theorem dX9_lawOn_9 : decode cX9_lawOn 9 = .ok (.iconst (-1), 1) := by decide +kernel
theorem dX9_lawOn_10 : decode cX9_lawOn 10 = .ok (.goto 9, 3) := by decide +kernel
theorem dX9_lawOn_13 : decode cX9_lawOn 13 = .ok (.aload_n 0, 1) := by decide +kernel
theorem dX9_lawOn_14 : decode cX9_lawOn 14 = .ok (.iload_n 1, 1) := by decide +kernel
theorem dX9_lawOn_15 : decode cX9_lawOn 15 = .ok (.iload_n 2, 1) := by decide +kernel
theorem dX9_lawOn_16 : decode cX9_lawOn 16 = .ok (.invokevirtual 350, 3) := by decide +kernel
theorem dX9_lawOn_19 : decode cX9_lawOn 19 = .ok (.istore_n 3, 1) := by decide +kernel
theorem dX9_lawOn_20 : decode cX9_lawOn 20 = .ok (.iconst (-1), 1) := by decide +kernel
theorem dX9_lawOn_21 : decode cX9_lawOn 21 = .ok (.istore 4, 2) := by decide +kernel
theorem dX9_lawOn_23 : decode cX9_lawOn 23 = .ok (.iconst 0, 1) := by decide +kernel
theorem dX9_lawOn_24 : decode cX9_lawOn 24 = .ok (.istore 5, 2) := by decide +kernel
theorem dX9_lawOn_26 : decode cX9_lawOn 26 = .ok (.iload 5, 2) := by decide +kernel
theorem dX9_lawOn_28 : decode cX9_lawOn 28 = .ok (.iload_n 3, 1) := by decide +kernel
theorem dX9_lawOn_29 : decode cX9_lawOn 29 = .ok (.if_icmp .gt 30, 3) := by decide +kernel
theorem dX9_lawOn_32 : decode cX9_lawOn 32 = .ok (.iload 4, 2) := by decide +kernel
theorem dX9_lawOn_34 : decode cX9_lawOn 34 = .ok (.aload_n 0, 1) := by decide +kernel
theorem dX9_lawOn_35 : decode cX9_lawOn 35 = .ok (.getfield 20, 3) := by decide +kernel
theorem dX9_lawOn_38 : decode cX9_lawOn 38 = .ok (.iload 5, 2) := by decide +kernel
theorem dX9_lawOn_40 : decode cX9_lawOn 40 = .ok (.iaload, 1) := by decide +kernel
theorem dX9_lawOn_41 : decode cX9_lawOn 41 = .ok (.iload_n 1, 1) := by decide +kernel
theorem dX9_lawOn_42 : decode cX9_lawOn 42 = .ok (.if_icmp .ne 7, 3) := by decide +kernel
theorem dX9_lawOn_45 : decode cX9_lawOn 45 = .ok (.iconst 1, 1) := by decide +kernel
theorem dX9_lawOn_46 : decode cX9_lawOn 46 = .ok (.goto 4, 3) := by decide +kernel
theorem dX9_lawOn_49 : decode cX9_lawOn 49 = .ok (.iconst 0, 1) := by decide +kernel
theorem dX9_lawOn_50 : decode cX9_lawOn 50 = .ok (.iadd, 1) := by decide +kernel
theorem dX9_lawOn_51 : decode cX9_lawOn 51 = .ok (.istore 4, 2) := by decide +kernel
theorem dX9_lawOn_53 : decode cX9_lawOn 53 = .ok (.iinc 5 1, 3) := by decide +kernel
theorem dX9_lawOn_56 : decode cX9_lawOn 56 = .ok (.goto (-30), 3) := by decide +kernel
theorem dX9_lawOn_59 : decode cX9_lawOn 59 = .ok (.iload 4, 2) := by decide +kernel
theorem dX9_lawOn_61 : decode cX9_lawOn 61 = .ok (.ireturn, 1) := by decide +kernel
theorem dX9_isPerson_0 : decode cX9_isPerson 0 = .ok (.iload_n 1, 1) := by decide +kernel
theorem dX9_isPerson_1 : decode cX9_isPerson 1 = .ok (.ifCond .lt 15, 3) := by decide +kernel
theorem dX9_isPerson_4 : decode cX9_isPerson 4 = .ok (.iload_n 1, 1) := by decide +kernel
theorem dX9_isPerson_5 : decode cX9_isPerson 5 = .ok (.aload_n 0, 1) := by decide +kernel
theorem dX9_isPerson_6 : decode cX9_isPerson 6 = .ok (.getfield 353, 3) := by decide +kernel
theorem dX9_isPerson_9 : decode cX9_isPerson 9 = .ok (.if_icmp .ge 7, 3) := by decide +kernel
theorem dX9_isPerson_12 : decode cX9_isPerson 12 = .ok (.iconst 1, 1) := by decide +kernel
theorem dX9_isPerson_13 : decode cX9_isPerson 13 = .ok (.goto 4, 3) := by decide +kernel
theorem dX9_isPerson_16 : decode cX9_isPerson 16 = .ok (.iconst 0, 1) := by decide +kernel
theorem dX9_isPerson_17 : decode cX9_isPerson 17 = .ok (.ireturn, 1) := by decide +kernel
theorem dX9_person_0 : decode cX9_person 0 = .ok (.iload_n 1, 1) := by decide +kernel
theorem dX9_person_1 : decode cX9_person 1 = .ok (.ifCond .lt 43, 3) := by decide +kernel
theorem dX9_person_4 : decode cX9_person 4 = .ok (.iload_n 1, 1) := by decide +kernel
theorem dX9_person_5 : decode cX9_person 5 = .ok (.iconst 4, 1) := by decide +kernel
theorem dX9_person_6 : decode cX9_person 6 = .ok (.if_icmp .ge 38, 3) := by decide +kernel
theorem dX9_person_9 : decode cX9_person 9 = .ok (.iload_n 2, 1) := by decide +kernel
theorem dX9_person_10 : decode cX9_person 10 = .ok (.iconst (-1), 1) := by decide +kernel
theorem dX9_person_11 : decode cX9_person 11 = .ok (.if_icmp .lt 33, 3) := by decide +kernel
theorem dX9_person_14 : decode cX9_person 14 = .ok (.iload_n 2, 1) := by decide +kernel
theorem dX9_person_15 : decode cX9_person 15 = .ok (.aload_n 0, 1) := by decide +kernel
theorem dX9_person_16 : decode cX9_person 16 = .ok (.getfield 353, 3) := by decide +kernel
theorem dX9_person_19 : decode cX9_person 19 = .ok (.if_icmp .ge 25, 3) := by decide +kernel
theorem dX9_person_22 : decode cX9_person 22 = .ok (.iload_n 3, 1) := by decide +kernel
theorem dX9_person_23 : decode cX9_person 23 = .ok (.iconst (-1), 1) := by decide +kernel
theorem dX9_person_24 : decode cX9_person 24 = .ok (.if_icmp .lt 20, 3) := by decide +kernel
theorem dX9_person_27 : decode cX9_person 27 = .ok (.iload_n 3, 1) := by decide +kernel
theorem dX9_person_28 : decode cX9_person 28 = .ok (.aload_n 0, 1) := by decide +kernel
theorem dX9_person_29 : decode cX9_person 29 = .ok (.getfield 353, 3) := by decide +kernel
theorem dX9_person_32 : decode cX9_person 32 = .ok (.if_icmp .ge 12, 3) := by decide +kernel
theorem dX9_person_35 : decode cX9_person 35 = .ok (.aload_n 0, 1) := by decide +kernel
theorem dX9_person_36 : decode cX9_person 36 = .ok (.getfield 353, 3) := by decide +kernel
theorem dX9_person_39 : decode cX9_person 39 = .ok (.bipush 20, 2) := by decide +kernel
theorem dX9_person_41 : decode cX9_person 41 = .ok (.if_icmp .ne 5, 3) := by decide +kernel
theorem dX9_person_44 : decode cX9_person 44 = .ok (.iconst (-1), 1) := by decide +kernel
theorem dX9_person_45 : decode cX9_person 45 = .ok (.ireturn, 1) := by decide +kernel
theorem dX9_person_46 : decode cX9_person 46 = .ok (.aload_n 0, 1) := by decide +kernel
theorem dX9_person_47 : decode cX9_person 47 = .ok (.getfield 89, 3) := by decide +kernel
theorem dX9_person_50 : decode cX9_person 50 = .ok (.aload_n 0, 1) := by decide +kernel
theorem dX9_person_51 : decode cX9_person 51 = .ok (.getfield 353, 3) := by decide +kernel
theorem dX9_person_54 : decode cX9_person 54 = .ok (.iload_n 1, 1) := by decide +kernel
theorem dX9_person_55 : decode cX9_person 55 = .ok (.iastore, 1) := by decide +kernel
theorem dX9_person_56 : decode cX9_person 56 = .ok (.aload_n 0, 1) := by decide +kernel
theorem dX9_person_57 : decode cX9_person 57 = .ok (.getfield 92, 3) := by decide +kernel
theorem dX9_person_60 : decode cX9_person 60 = .ok (.aload_n 0, 1) := by decide +kernel
theorem dX9_person_61 : decode cX9_person 61 = .ok (.getfield 353, 3) := by decide +kernel
theorem dX9_person_64 : decode cX9_person 64 = .ok (.iload_n 2, 1) := by decide +kernel
theorem dX9_person_65 : decode cX9_person 65 = .ok (.iastore, 1) := by decide +kernel
theorem dX9_person_66 : decode cX9_person 66 = .ok (.aload_n 0, 1) := by decide +kernel
theorem dX9_person_67 : decode cX9_person 67 = .ok (.getfield 95, 3) := by decide +kernel
theorem dX9_person_70 : decode cX9_person 70 = .ok (.aload_n 0, 1) := by decide +kernel
theorem dX9_person_71 : decode cX9_person 71 = .ok (.getfield 353, 3) := by decide +kernel
theorem dX9_person_74 : decode cX9_person 74 = .ok (.iload_n 3, 1) := by decide +kernel
theorem dX9_person_75 : decode cX9_person 75 = .ok (.iastore, 1) := by decide +kernel
theorem dX9_person_76 : decode cX9_person 76 = .ok (.aload_n 0, 1) := by decide +kernel
theorem dX9_person_77 : decode cX9_person 77 = .ok (.getfield 98, 3) := by decide +kernel
theorem dX9_person_80 : decode cX9_person 80 = .ok (.aload_n 0, 1) := by decide +kernel
theorem dX9_person_81 : decode cX9_person 81 = .ok (.getfield 353, 3) := by decide +kernel
theorem dX9_person_84 : decode cX9_person 84 = .ok (.iconst (-1), 1) := by decide +kernel
theorem dX9_person_85 : decode cX9_person 85 = .ok (.iastore, 1) := by decide +kernel
theorem dX9_person_86 : decode cX9_person 86 = .ok (.aload_n 0, 1) := by decide +kernel
theorem dX9_person_87 : decode cX9_person 87 = .ok (.dup, 1) := by decide +kernel
theorem dX9_person_88 : decode cX9_person 88 = .ok (.getfield 353, 3) := by decide +kernel
theorem dX9_person_91 : decode cX9_person 91 = .ok (.iconst 1, 1) := by decide +kernel
theorem dX9_person_92 : decode cX9_person 92 = .ok (.iadd, 1) := by decide +kernel
theorem dX9_person_93 : decode cX9_person 93 = .ok (.putfield 353, 3) := by decide +kernel
theorem dX9_person_96 : decode cX9_person 96 = .ok (.aload_n 0, 1) := by decide +kernel
theorem dX9_person_97 : decode cX9_person 97 = .ok (.getfield 353, 3) := by decide +kernel
theorem dX9_person_100 : decode cX9_person 100 = .ok (.iconst 1, 1) := by decide +kernel
theorem dX9_person_101 : decode cX9_person 101 = .ok (.isub, 1) := by decide +kernel
theorem dX9_person_102 : decode cX9_person 102 = .ok (.ireturn, 1) := by decide +kernel
theorem dX9_wider_0 : decode cX9_wider 0 = .ok (.iload_n 1, 1) := by decide +kernel
theorem dX9_wider_1 : decode cX9_wider 1 = .ok (.istore_n 2, 1) := by decide +kernel
theorem dX9_wider_2 : decode cX9_wider 2 = .ok (.iconst 0, 1) := by decide +kernel
theorem dX9_wider_3 : decode cX9_wider 3 = .ok (.istore_n 3, 1) := by decide +kernel
theorem dX9_wider_4 : decode cX9_wider 4 = .ok (.iload_n 3, 1) := by decide +kernel
theorem dX9_wider_5 : decode cX9_wider 5 = .ok (.aload_n 0, 1) := by decide +kernel
theorem dX9_wider_6 : decode cX9_wider 6 = .ok (.getfield 353, 3) := by decide +kernel
theorem dX9_wider_9 : decode cX9_wider 9 = .ok (.if_icmp .ge 81, 3) := by decide +kernel
theorem dX9_wider_12 : decode cX9_wider 12 = .ok (.aload_n 0, 1) := by decide +kernel
theorem dX9_wider_13 : decode cX9_wider 13 = .ok (.getfield 92, 3) := by decide +kernel
theorem dX9_wider_16 : decode cX9_wider 16 = .ok (.iload_n 3, 1) := by decide +kernel
theorem dX9_wider_17 : decode cX9_wider 17 = .ok (.iaload, 1) := by decide +kernel
theorem dX9_wider_18 : decode cX9_wider 18 = .ok (.ifCond .ge 7, 3) := by decide +kernel
theorem dX9_wider_21 : decode cX9_wider 21 = .ok (.iconst 0, 1) := by decide +kernel
theorem dX9_wider_22 : decode cX9_wider 22 = .ok (.goto 11, 3) := by decide +kernel
theorem dX9_wider_25 : decode cX9_wider 25 = .ok (.iconst 1, 1) := by decide +kernel
theorem dX9_wider_26 : decode cX9_wider 26 = .ok (.aload_n 0, 1) := by decide +kernel
theorem dX9_wider_27 : decode cX9_wider 27 = .ok (.getfield 92, 3) := by decide +kernel
theorem dX9_wider_30 : decode cX9_wider 30 = .ok (.iload_n 3, 1) := by decide +kernel
theorem dX9_wider_31 : decode cX9_wider 31 = .ok (.iaload, 1) := by decide +kernel
theorem dX9_wider_32 : decode cX9_wider 32 = .ok (.ishl, 1) := by decide +kernel
theorem dX9_wider_33 : decode cX9_wider 33 = .ok (.aload_n 0, 1) := by decide +kernel
theorem dX9_wider_34 : decode cX9_wider 34 = .ok (.getfield 95, 3) := by decide +kernel
theorem dX9_wider_37 : decode cX9_wider 37 = .ok (.iload_n 3, 1) := by decide +kernel
theorem dX9_wider_38 : decode cX9_wider 38 = .ok (.iaload, 1) := by decide +kernel
theorem dX9_wider_39 : decode cX9_wider 39 = .ok (.ifCond .ge 7, 3) := by decide +kernel
theorem dX9_wider_42 : decode cX9_wider 42 = .ok (.iconst 0, 1) := by decide +kernel
theorem dX9_wider_43 : decode cX9_wider 43 = .ok (.goto 11, 3) := by decide +kernel
theorem dX9_wider_46 : decode cX9_wider 46 = .ok (.iconst 1, 1) := by decide +kernel
theorem dX9_wider_47 : decode cX9_wider 47 = .ok (.aload_n 0, 1) := by decide +kernel
theorem dX9_wider_48 : decode cX9_wider 48 = .ok (.getfield 95, 3) := by decide +kernel
theorem dX9_wider_51 : decode cX9_wider 51 = .ok (.iload_n 3, 1) := by decide +kernel
theorem dX9_wider_52 : decode cX9_wider 52 = .ok (.iaload, 1) := by decide +kernel
theorem dX9_wider_53 : decode cX9_wider 53 = .ok (.ishl, 1) := by decide +kernel
theorem dX9_wider_54 : decode cX9_wider 54 = .ok (.ior, 1) := by decide +kernel
theorem dX9_wider_55 : decode cX9_wider 55 = .ok (.istore 4, 2) := by decide +kernel
theorem dX9_wider_57 : decode cX9_wider 57 = .ok (.iload_n 1, 1) := by decide +kernel
theorem dX9_wider_58 : decode cX9_wider 58 = .ok (.iload_n 3, 1) := by decide +kernel
theorem dX9_wider_59 : decode cX9_wider 59 = .ok (.ishr, 1) := by decide +kernel
theorem dX9_wider_60 : decode cX9_wider 60 = .ok (.iconst 1, 1) := by decide +kernel
theorem dX9_wider_61 : decode cX9_wider 61 = .ok (.iand, 1) := by decide +kernel
theorem dX9_wider_62 : decode cX9_wider 62 = .ok (.iconst 1, 1) := by decide +kernel
theorem dX9_wider_63 : decode cX9_wider 63 = .ok (.if_icmp .ne 8, 3) := by decide +kernel
theorem dX9_wider_66 : decode cX9_wider 66 = .ok (.iload_n 2, 1) := by decide +kernel
theorem dX9_wider_67 : decode cX9_wider 67 = .ok (.iload 4, 2) := by decide +kernel
theorem dX9_wider_69 : decode cX9_wider 69 = .ok (.ior, 1) := by decide +kernel
theorem dX9_wider_70 : decode cX9_wider 70 = .ok (.istore_n 2, 1) := by decide +kernel
theorem dX9_wider_71 : decode cX9_wider 71 = .ok (.iload_n 1, 1) := by decide +kernel
theorem dX9_wider_72 : decode cX9_wider 72 = .ok (.iload 4, 2) := by decide +kernel
theorem dX9_wider_74 : decode cX9_wider 74 = .ok (.iand, 1) := by decide +kernel
theorem dX9_wider_75 : decode cX9_wider 75 = .ok (.ifCond .eq 9, 3) := by decide +kernel
theorem dX9_wider_78 : decode cX9_wider 78 = .ok (.iload_n 2, 1) := by decide +kernel
theorem dX9_wider_79 : decode cX9_wider 79 = .ok (.iconst 1, 1) := by decide +kernel
theorem dX9_wider_80 : decode cX9_wider 80 = .ok (.iload_n 3, 1) := by decide +kernel
theorem dX9_wider_81 : decode cX9_wider 81 = .ok (.ishl, 1) := by decide +kernel
theorem dX9_wider_82 : decode cX9_wider 82 = .ok (.ior, 1) := by decide +kernel
theorem dX9_wider_83 : decode cX9_wider 83 = .ok (.istore_n 2, 1) := by decide +kernel
theorem dX9_wider_84 : decode cX9_wider 84 = .ok (.iinc 3 1, 3) := by decide +kernel
theorem dX9_wider_87 : decode cX9_wider 87 = .ok (.goto (-83), 3) := by decide +kernel
theorem dX9_wider_90 : decode cX9_wider 90 = .ok (.iload_n 2, 1) := by decide +kernel
theorem dX9_wider_91 : decode cX9_wider 91 = .ok (.ireturn, 1) := by decide +kernel
theorem dX9_degree_0 : decode cX9_degree 0 = .ok (.aload_n 0, 1) := by decide +kernel
theorem dX9_degree_1 : decode cX9_degree 1 = .ok (.iload_n 1, 1) := by decide +kernel
theorem dX9_degree_2 : decode cX9_degree 2 = .ok (.invokevirtual 356, 3) := by decide +kernel
theorem dX9_degree_5 : decode cX9_degree 5 = .ok (.ifCond .eq 11, 3) := by decide +kernel
theorem dX9_degree_8 : decode cX9_degree 8 = .ok (.aload_n 0, 1) := by decide +kernel
theorem dX9_degree_9 : decode cX9_degree 9 = .ok (.iload_n 2, 1) := by decide +kernel
theorem dX9_degree_10 : decode cX9_degree 10 = .ok (.invokevirtual 356, 3) := by decide +kernel
theorem dX9_degree_13 : decode cX9_degree 13 = .ok (.ifCond .ne 5, 3) := by decide +kernel
theorem dX9_degree_16 : decode cX9_degree 16 = .ok (.iconst (-1), 1) := by decide +kernel
theorem dX9_degree_17 : decode cX9_degree 17 = .ok (.ireturn, 1) := by decide +kernel
theorem dX9_degree_18 : decode cX9_degree 18 = .ok (.iconst 1, 1) := by decide +kernel
theorem dX9_degree_19 : decode cX9_degree 19 = .ok (.iload_n 1, 1) := by decide +kernel
theorem dX9_degree_20 : decode cX9_degree 20 = .ok (.ishl, 1) := by decide +kernel
theorem dX9_degree_21 : decode cX9_degree 21 = .ok (.istore_n 3, 1) := by decide +kernel
theorem dX9_degree_22 : decode cX9_degree 22 = .ok (.iconst 0, 1) := by decide +kernel
theorem dX9_degree_23 : decode cX9_degree 23 = .ok (.istore 4, 2) := by decide +kernel
theorem dX9_degree_25 : decode cX9_degree 25 = .ok (.iload 4, 2) := by decide +kernel
theorem dX9_degree_27 : decode cX9_degree 27 = .ok (.aload_n 0, 1) := by decide +kernel
theorem dX9_degree_28 : decode cX9_degree 28 = .ok (.getfield 353, 3) := by decide +kernel
theorem dX9_degree_31 : decode cX9_degree 31 = .ok (.if_icmp .gt 27, 3) := by decide +kernel
theorem dX9_degree_34 : decode cX9_degree 34 = .ok (.iload_n 3, 1) := by decide +kernel
theorem dX9_degree_35 : decode cX9_degree 35 = .ok (.iload_n 2, 1) := by decide +kernel
theorem dX9_degree_36 : decode cX9_degree 36 = .ok (.ishr, 1) := by decide +kernel
theorem dX9_degree_37 : decode cX9_degree 37 = .ok (.iconst 1, 1) := by decide +kernel
theorem dX9_degree_38 : decode cX9_degree 38 = .ok (.iand, 1) := by decide +kernel
theorem dX9_degree_39 : decode cX9_degree 39 = .ok (.iconst 1, 1) := by decide +kernel
theorem dX9_degree_40 : decode cX9_degree 40 = .ok (.if_icmp .ne 6, 3) := by decide +kernel
theorem dX9_degree_43 : decode cX9_degree 43 = .ok (.iload 4, 2) := by decide +kernel
theorem dX9_degree_45 : decode cX9_degree 45 = .ok (.ireturn, 1) := by decide +kernel
theorem dX9_degree_46 : decode cX9_degree 46 = .ok (.aload_n 0, 1) := by decide +kernel
theorem dX9_degree_47 : decode cX9_degree 47 = .ok (.iload_n 3, 1) := by decide +kernel
theorem dX9_degree_48 : decode cX9_degree 48 = .ok (.invokevirtual 359, 3) := by decide +kernel
theorem dX9_degree_51 : decode cX9_degree 51 = .ok (.istore_n 3, 1) := by decide +kernel
theorem dX9_degree_52 : decode cX9_degree 52 = .ok (.iinc 4 1, 3) := by decide +kernel
theorem dX9_degree_55 : decode cX9_degree 55 = .ok (.goto (-30), 3) := by decide +kernel
theorem dX9_degree_58 : decode cX9_degree 58 = .ok (.iconst (-1), 1) := by decide +kernel
theorem dX9_degree_59 : decode cX9_degree 59 = .ok (.ireturn, 1) := by decide +kernel
theorem dX9_rank_0 : decode cX9_rank 0 = .ok (.aload_n 0, 1) := by decide +kernel
theorem dX9_rank_1 : decode cX9_rank 1 = .ok (.iload_n 1, 1) := by decide +kernel
theorem dX9_rank_2 : decode cX9_rank 2 = .ok (.invokevirtual 356, 3) := by decide +kernel
theorem dX9_rank_5 : decode cX9_rank 5 = .ok (.ifCond .eq 32, 3) := by decide +kernel
theorem dX9_rank_8 : decode cX9_rank 8 = .ok (.iload_n 2, 1) := by decide +kernel
theorem dX9_rank_9 : decode cX9_rank 9 = .ok (.ifCond .lt 28, 3) := by decide +kernel
theorem dX9_rank_12 : decode cX9_rank 12 = .ok (.iload_n 2, 1) := by decide +kernel
theorem dX9_rank_13 : decode cX9_rank 13 = .ok (.iconst 3, 1) := by decide +kernel
theorem dX9_rank_14 : decode cX9_rank 14 = .ok (.if_icmp .gt 23, 3) := by decide +kernel
theorem dX9_rank_17 : decode cX9_rank 17 = .ok (.iload_n 3, 1) := by decide +kernel
theorem dX9_rank_18 : decode cX9_rank 18 = .ok (.ifCond .lt 19, 3) := by decide +kernel
theorem dX9_rank_21 : decode cX9_rank 21 = .ok (.iload_n 3, 1) := by decide +kernel
theorem dX9_rank_22 : decode cX9_rank 22 = .ok (.ldc_w 276, 3) := by decide +kernel
theorem dX9_rank_25 : decode cX9_rank 25 = .ok (.if_icmp .gt 12, 3) := by decide +kernel
theorem dX9_rank_28 : decode cX9_rank 28 = .ok (.aload_n 0, 1) := by decide +kernel
theorem dX9_rank_29 : decode cX9_rank 29 = .ok (.getfield 362, 3) := by decide +kernel
theorem dX9_rank_32 : decode cX9_rank 32 = .ok (.bipush 60, 2) := by decide +kernel
theorem dX9_rank_34 : decode cX9_rank 34 = .ok (.if_icmp .ne 5, 3) := by decide +kernel
theorem dX9_rank_37 : decode cX9_rank 37 = .ok (.iconst (-1), 1) := by decide +kernel
theorem dX9_rank_38 : decode cX9_rank 38 = .ok (.ireturn, 1) := by decide +kernel
theorem dX9_rank_39 : decode cX9_rank 39 = .ok (.aload_n 0, 1) := by decide +kernel
theorem dX9_rank_40 : decode cX9_rank 40 = .ok (.getfield 101, 3) := by decide +kernel
theorem dX9_rank_43 : decode cX9_rank 43 = .ok (.aload_n 0, 1) := by decide +kernel
theorem dX9_rank_44 : decode cX9_rank 44 = .ok (.getfield 362, 3) := by decide +kernel
theorem dX9_rank_47 : decode cX9_rank 47 = .ok (.iload_n 1, 1) := by decide +kernel
theorem dX9_rank_48 : decode cX9_rank 48 = .ok (.iastore, 1) := by decide +kernel
theorem dX9_rank_49 : decode cX9_rank 49 = .ok (.aload_n 0, 1) := by decide +kernel
theorem dX9_rank_50 : decode cX9_rank 50 = .ok (.getfield 104, 3) := by decide +kernel
theorem dX9_rank_53 : decode cX9_rank 53 = .ok (.aload_n 0, 1) := by decide +kernel
theorem dX9_rank_54 : decode cX9_rank 54 = .ok (.getfield 362, 3) := by decide +kernel
theorem dX9_rank_57 : decode cX9_rank 57 = .ok (.iload_n 2, 1) := by decide +kernel
theorem dX9_rank_58 : decode cX9_rank 58 = .ok (.iastore, 1) := by decide +kernel
theorem dX9_rank_59 : decode cX9_rank 59 = .ok (.aload_n 0, 1) := by decide +kernel
theorem dX9_rank_60 : decode cX9_rank 60 = .ok (.getfield 107, 3) := by decide +kernel
theorem dX9_rank_63 : decode cX9_rank 63 = .ok (.aload_n 0, 1) := by decide +kernel
theorem dX9_rank_64 : decode cX9_rank 64 = .ok (.getfield 362, 3) := by decide +kernel
theorem dX9_rank_67 : decode cX9_rank 67 = .ok (.iload_n 3, 1) := by decide +kernel
theorem dX9_rank_68 : decode cX9_rank 68 = .ok (.iastore, 1) := by decide +kernel
theorem dX9_rank_69 : decode cX9_rank 69 = .ok (.aload_n 0, 1) := by decide +kernel
theorem dX9_rank_70 : decode cX9_rank 70 = .ok (.getfield 110, 3) := by decide +kernel
theorem dX9_rank_73 : decode cX9_rank 73 = .ok (.aload_n 0, 1) := by decide +kernel
theorem dX9_rank_74 : decode cX9_rank 74 = .ok (.getfield 362, 3) := by decide +kernel
theorem dX9_rank_77 : decode cX9_rank 77 = .ok (.aload_n 0, 1) := by decide +kernel
theorem dX9_rank_78 : decode cX9_rank 78 = .ok (.getfield 365, 3) := by decide +kernel
theorem dX9_rank_81 : decode cX9_rank 81 = .ok (.iastore, 1) := by decide +kernel
theorem dX9_rank_82 : decode cX9_rank 82 = .ok (.aload_n 0, 1) := by decide +kernel
theorem dX9_rank_83 : decode cX9_rank 83 = .ok (.dup, 1) := by decide +kernel
theorem dX9_rank_84 : decode cX9_rank 84 = .ok (.getfield 362, 3) := by decide +kernel
theorem dX9_rank_87 : decode cX9_rank 87 = .ok (.iconst 1, 1) := by decide +kernel
theorem dX9_rank_88 : decode cX9_rank 88 = .ok (.iadd, 1) := by decide +kernel
theorem dX9_rank_89 : decode cX9_rank 89 = .ok (.putfield 362, 3) := by decide +kernel
theorem dX9_rank_92 : decode cX9_rank 92 = .ok (.aload_n 0, 1) := by decide +kernel
theorem dX9_rank_93 : decode cX9_rank 93 = .ok (.getfield 362, 3) := by decide +kernel
theorem dX9_rank_96 : decode cX9_rank 96 = .ok (.ireturn, 1) := by decide +kernel
theorem dX9_ranked_0 : decode cX9_ranked 0 = .ok (.aload_n 0, 1) := by decide +kernel
theorem dX9_ranked_1 : decode cX9_ranked 1 = .ok (.iload_n 1, 1) := by decide +kernel
theorem dX9_ranked_2 : decode cX9_ranked 2 = .ok (.invokevirtual 356, 3) := by decide +kernel
theorem dX9_ranked_5 : decode cX9_ranked 5 = .ok (.ifCond .ne 5, 3) := by decide +kernel
theorem dX9_ranked_8 : decode cX9_ranked 8 = .ok (.iconst (-1), 1) := by decide +kernel
theorem dX9_ranked_9 : decode cX9_ranked 9 = .ok (.ireturn, 1) := by decide +kernel
theorem dX9_ranked_10 : decode cX9_ranked 10 = .ok (.iconst (-1), 1) := by decide +kernel
theorem dX9_ranked_11 : decode cX9_ranked 11 = .ok (.istore 4, 2) := by decide +kernel
theorem dX9_ranked_13 : decode cX9_ranked 13 = .ok (.iconst 0, 1) := by decide +kernel
theorem dX9_ranked_14 : decode cX9_ranked 14 = .ok (.istore 5, 2) := by decide +kernel
theorem dX9_ranked_16 : decode cX9_ranked 16 = .ok (.iload 5, 2) := by decide +kernel
theorem dX9_ranked_18 : decode cX9_ranked 18 = .ok (.aload_n 0, 1) := by decide +kernel
theorem dX9_ranked_19 : decode cX9_ranked 19 = .ok (.getfield 362, 3) := by decide +kernel
theorem dX9_ranked_22 : decode cX9_ranked 22 = .ok (.if_icmp .ge 68, 3) := by decide +kernel
theorem dX9_ranked_25 : decode cX9_ranked 25 = .ok (.aload_n 0, 1) := by decide +kernel
theorem dX9_ranked_26 : decode cX9_ranked 26 = .ok (.getfield 101, 3) := by decide +kernel
theorem dX9_ranked_29 : decode cX9_ranked 29 = .ok (.iload 5, 2) := by decide +kernel
theorem dX9_ranked_31 : decode cX9_ranked 31 = .ok (.iaload, 1) := by decide +kernel
theorem dX9_ranked_32 : decode cX9_ranked 32 = .ok (.iload_n 1, 1) := by decide +kernel
theorem dX9_ranked_33 : decode cX9_ranked 33 = .ok (.if_icmp .ne 51, 3) := by decide +kernel
theorem dX9_ranked_36 : decode cX9_ranked 36 = .ok (.aload_n 0, 1) := by decide +kernel
theorem dX9_ranked_37 : decode cX9_ranked 37 = .ok (.getfield 107, 3) := by decide +kernel
theorem dX9_ranked_40 : decode cX9_ranked 40 = .ok (.iload 5, 2) := by decide +kernel
theorem dX9_ranked_42 : decode cX9_ranked 42 = .ok (.iaload, 1) := by decide +kernel
theorem dX9_ranked_43 : decode cX9_ranked 43 = .ok (.iload_n 2, 1) := by decide +kernel
theorem dX9_ranked_44 : decode cX9_ranked 44 = .ok (.if_icmp .gt 40, 3) := by decide +kernel
theorem dX9_ranked_47 : decode cX9_ranked 47 = .ok (.aload_n 0, 1) := by decide +kernel
theorem dX9_ranked_48 : decode cX9_ranked 48 = .ok (.getfield 110, 3) := by decide +kernel
theorem dX9_ranked_51 : decode cX9_ranked 51 = .ok (.iload 5, 2) := by decide +kernel
theorem dX9_ranked_53 : decode cX9_ranked 53 = .ok (.iaload, 1) := by decide +kernel
theorem dX9_ranked_54 : decode cX9_ranked 54 = .ok (.iload_n 3, 1) := by decide +kernel
theorem dX9_ranked_55 : decode cX9_ranked 55 = .ok (.if_icmp .gt 29, 3) := by decide +kernel
theorem dX9_ranked_58 : decode cX9_ranked 58 = .ok (.iload 4, 2) := by decide +kernel
theorem dX9_ranked_60 : decode cX9_ranked 60 = .ok (.ifCond .lt 20, 3) := by decide +kernel
theorem dX9_ranked_63 : decode cX9_ranked 63 = .ok (.aload_n 0, 1) := by decide +kernel
theorem dX9_ranked_64 : decode cX9_ranked 64 = .ok (.getfield 107, 3) := by decide +kernel
theorem dX9_ranked_67 : decode cX9_ranked 67 = .ok (.iload 5, 2) := by decide +kernel
theorem dX9_ranked_69 : decode cX9_ranked 69 = .ok (.iaload, 1) := by decide +kernel
theorem dX9_ranked_70 : decode cX9_ranked 70 = .ok (.aload_n 0, 1) := by decide +kernel
theorem dX9_ranked_71 : decode cX9_ranked 71 = .ok (.getfield 107, 3) := by decide +kernel
theorem dX9_ranked_74 : decode cX9_ranked 74 = .ok (.iload 4, 2) := by decide +kernel
theorem dX9_ranked_76 : decode cX9_ranked 76 = .ok (.iaload, 1) := by decide +kernel
theorem dX9_ranked_77 : decode cX9_ranked 77 = .ok (.if_icmp .lt 7, 3) := by decide +kernel
theorem dX9_ranked_80 : decode cX9_ranked 80 = .ok (.iload 5, 2) := by decide +kernel
theorem dX9_ranked_82 : decode cX9_ranked 82 = .ok (.istore 4, 2) := by decide +kernel
theorem dX9_ranked_84 : decode cX9_ranked 84 = .ok (.iinc 5 1, 3) := by decide +kernel
theorem dX9_ranked_87 : decode cX9_ranked 87 = .ok (.goto (-71), 3) := by decide +kernel
theorem dX9_ranked_90 : decode cX9_ranked 90 = .ok (.iload 4, 2) := by decide +kernel
theorem dX9_ranked_92 : decode cX9_ranked 92 = .ok (.ifCond .ge 7, 3) := by decide +kernel
theorem dX9_ranked_95 : decode cX9_ranked 95 = .ok (.iconst 0, 1) := by decide +kernel
theorem dX9_ranked_96 : decode cX9_ranked 96 = .ok (.goto 10, 3) := by decide +kernel
theorem dX9_ranked_99 : decode cX9_ranked 99 = .ok (.aload_n 0, 1) := by decide +kernel
theorem dX9_ranked_100 : decode cX9_ranked 100 = .ok (.getfield 104, 3) := by decide +kernel
theorem dX9_ranked_103 : decode cX9_ranked 103 = .ok (.iload 4, 2) := by decide +kernel
theorem dX9_ranked_105 : decode cX9_ranked 105 = .ok (.iaload, 1) := by decide +kernel
theorem dX9_ranked_106 : decode cX9_ranked 106 = .ok (.ireturn, 1) := by decide +kernel
theorem dX9_dead_0 : decode cX9_dead 0 = .ok (.aload_n 0, 1) := by decide +kernel
theorem dX9_dead_1 : decode cX9_dead 1 = .ok (.iload_n 1, 1) := by decide +kernel
theorem dX9_dead_2 : decode cX9_dead 2 = .ok (.invokevirtual 356, 3) := by decide +kernel
theorem dX9_dead_5 : decode cX9_dead 5 = .ok (.ifCond .eq 23, 3) := by decide +kernel
theorem dX9_dead_8 : decode cX9_dead 8 = .ok (.aload_n 0, 1) := by decide +kernel
theorem dX9_dead_9 : decode cX9_dead 9 = .ok (.getfield 98, 3) := by decide +kernel
theorem dX9_dead_12 : decode cX9_dead 12 = .ok (.iload_n 1, 1) := by decide +kernel
theorem dX9_dead_13 : decode cX9_dead 13 = .ok (.iaload, 1) := by decide +kernel
