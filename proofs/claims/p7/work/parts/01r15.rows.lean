section
theorem dX12_isDigit_7 : decode cX12_isDigit 7 = .ok (.bipush 57, 2) := by decide +kernel
theorem dX12_isDigit_9 : decode cX12_isDigit 9 = .ok (.if_icmp .gt 7, 3) := by decide +kernel
theorem dX12_isDigit_12 : decode cX12_isDigit 12 = .ok (.iconst 1, 1) := by decide +kernel
theorem dX12_isDigit_13 : decode cX12_isDigit 13 = .ok (.goto 4, 3) := by decide +kernel
theorem dX12_isDigit_16 : decode cX12_isDigit 16 = .ok (.iconst 0, 1) := by decide +kernel
theorem dX12_isDigit_17 : decode cX12_isDigit 17 = .ok (.ireturn, 1) := by decide +kernel
theorem dX12_lex_0 : decode cX12_lex 0 = .ok (.aload_n 0, 1) := by decide +kernel
theorem dX12_lex_1 : decode cX12_lex 1 = .ok (.getfield 48, 3) := by decide +kernel
theorem dX12_lex_4 : decode cX12_lex 4 = .ok (.iconst (-1), 1) := by decide +kernel
theorem dX12_lex_5 : decode cX12_lex 5 = .ok (.if_icmp .eq 12, 3) := by decide +kernel
theorem dX12_lex_8 : decode cX12_lex 8 = .ok (.aload_n 0, 1) := by decide +kernel
theorem dX12_lex_9 : decode cX12_lex 9 = .ok (.iconst 1, 1) := by decide +kernel
theorem dX12_lex_10 : decode cX12_lex 10 = .ok (.aload_n 0, 1) := by decide +kernel
theorem dX12_lex_11 : decode cX12_lex 11 = .ok (.getfield 48, 3) := by decide +kernel
theorem dX12_lex_14 : decode cX12_lex 14 = .ok (.invokevirtual 320, 3) := by decide +kernel
theorem dX12_lex_17 : decode cX12_lex 17 = .ok (.return_, 1) := by decide +kernel
theorem dX12_ahead_0 : decode cX12_ahead 0 = .ok (.aload_n 0, 1) := by decide +kernel
theorem dX12_ahead_1 : decode cX12_ahead 1 = .ok (.getfield 26, 3) := by decide +kernel
theorem dX12_ahead_4 : decode cX12_ahead 4 = .ok (.istore_n 1, 1) := by decide +kernel
theorem dX12_ahead_5 : decode cX12_ahead 5 = .ok (.iload_n 1, 1) := by decide +kernel
theorem dX12_ahead_6 : decode cX12_ahead 6 = .ok (.aload_n 0, 1) := by decide +kernel
theorem dX12_ahead_7 : decode cX12_ahead 7 = .ok (.getfield 17, 3) := by decide +kernel
theorem dX12_ahead_10 : decode cX12_ahead 10 = .ok (.if_icmp .ge 31, 3) := by decide +kernel
theorem dX12_ahead_13 : decode cX12_ahead 13 = .ok (.aload_n 0, 1) := by decide +kernel
theorem dX12_ahead_14 : decode cX12_ahead 14 = .ok (.getfield 7, 3) := by decide +kernel
theorem dX12_ahead_17 : decode cX12_ahead 17 = .ok (.iload_n 1, 1) := by decide +kernel
theorem dX12_ahead_18 : decode cX12_ahead 18 = .ok (.iaload, 1) := by decide +kernel
theorem dX12_ahead_19 : decode cX12_ahead 19 = .ok (.bipush 32, 2) := by decide +kernel
theorem dX12_ahead_21 : decode cX12_ahead 21 = .ok (.if_icmp .eq 14, 3) := by decide +kernel
theorem dX12_ahead_24 : decode cX12_ahead 24 = .ok (.aload_n 0, 1) := by decide +kernel
theorem dX12_ahead_25 : decode cX12_ahead 25 = .ok (.getfield 7, 3) := by decide +kernel
theorem dX12_ahead_28 : decode cX12_ahead 28 = .ok (.iload_n 1, 1) := by decide +kernel
theorem dX12_ahead_29 : decode cX12_ahead 29 = .ok (.iaload, 1) := by decide +kernel
theorem dX12_ahead_30 : decode cX12_ahead 30 = .ok (.bipush 10, 2) := by decide +kernel
theorem dX12_ahead_32 : decode cX12_ahead 32 = .ok (.if_icmp .ne 9, 3) := by decide +kernel
theorem dX12_ahead_35 : decode cX12_ahead 35 = .ok (.iinc 1 1, 3) := by decide +kernel
theorem dX12_ahead_38 : decode cX12_ahead 38 = .ok (.goto (-33), 3) := by decide +kernel
theorem dX12_ahead_41 : decode cX12_ahead 41 = .ok (.aload_n 0, 1) := by decide +kernel
theorem dX12_ahead_42 : decode cX12_ahead 42 = .ok (.iload_n 1, 1) := by decide +kernel
theorem dX12_ahead_43 : decode cX12_ahead 43 = .ok (.putfield 23, 3) := by decide +kernel
theorem dX12_ahead_46 : decode cX12_ahead 46 = .ok (.aload_n 0, 1) := by decide +kernel
theorem dX12_ahead_47 : decode cX12_ahead 47 = .ok (.iload_n 1, 1) := by decide +kernel
theorem dX12_ahead_48 : decode cX12_ahead 48 = .ok (.putfield 26, 3) := by decide +kernel
theorem dX12_ahead_51 : decode cX12_ahead 51 = .ok (.aload_n 0, 1) := by decide +kernel
theorem dX12_ahead_52 : decode cX12_ahead 52 = .ok (.iconst 0, 1) := by decide +kernel
theorem dX12_ahead_53 : decode cX12_ahead 53 = .ok (.putfield 20, 3) := by decide +kernel
theorem dX12_ahead_56 : decode cX12_ahead 56 = .ok (.aload_n 0, 1) := by decide +kernel
theorem dX12_ahead_57 : decode cX12_ahead 57 = .ok (.iconst (-1), 1) := by decide +kernel
theorem dX12_ahead_58 : decode cX12_ahead 58 = .ok (.putfield 48, 3) := by decide +kernel
theorem dX12_ahead_61 : decode cX12_ahead 61 = .ok (.iload_n 1, 1) := by decide +kernel
theorem dX12_ahead_62 : decode cX12_ahead 62 = .ok (.aload_n 0, 1) := by decide +kernel
theorem dX12_ahead_63 : decode cX12_ahead 63 = .ok (.getfield 17, 3) := by decide +kernel
theorem dX12_ahead_66 : decode cX12_ahead 66 = .ok (.if_icmp .lt 4, 3) := by decide +kernel
theorem dX12_ahead_69 : decode cX12_ahead 69 = .ok (.return_, 1) := by decide +kernel
theorem dX12_ahead_70 : decode cX12_ahead 70 = .ok (.aload_n 0, 1) := by decide +kernel
theorem dX12_ahead_71 : decode cX12_ahead 71 = .ok (.getfield 7, 3) := by decide +kernel
theorem dX12_ahead_74 : decode cX12_ahead 74 = .ok (.iload_n 1, 1) := by decide +kernel
theorem dX12_ahead_75 : decode cX12_ahead 75 = .ok (.iaload, 1) := by decide +kernel
theorem dX12_ahead_76 : decode cX12_ahead 76 = .ok (.invokestatic 324, 3) := by decide +kernel
theorem dX12_ahead_79 : decode cX12_ahead 79 = .ok (.istore_n 2, 1) := by decide +kernel
theorem dX12_ahead_80 : decode cX12_ahead 80 = .ok (.aload_n 0, 1) := by decide +kernel
theorem dX12_ahead_81 : decode cX12_ahead 81 = .ok (.getfield 7, 3) := by decide +kernel
theorem dX12_ahead_84 : decode cX12_ahead 84 = .ok (.iload_n 1, 1) := by decide +kernel
theorem dX12_ahead_85 : decode cX12_ahead 85 = .ok (.iaload, 1) := by decide +kernel
theorem dX12_ahead_86 : decode cX12_ahead 86 = .ok (.invokestatic 328, 3) := by decide +kernel
theorem dX12_ahead_89 : decode cX12_ahead 89 = .ok (.istore_n 3, 1) := by decide +kernel
theorem dX12_ahead_90 : decode cX12_ahead 90 = .ok (.iload_n 2, 1) := by decide +kernel
theorem dX12_ahead_91 : decode cX12_ahead 91 = .ok (.ifCond .ne 7, 3) := by decide +kernel
theorem dX12_ahead_94 : decode cX12_ahead 94 = .ok (.iload_n 3, 1) := by decide +kernel
theorem dX12_ahead_95 : decode cX12_ahead 95 = .ok (.ifCond .eq 40, 3) := by decide +kernel
theorem dX12_ahead_98 : decode cX12_ahead 98 = .ok (.iload_n 1, 1) := by decide +kernel
theorem dX12_ahead_99 : decode cX12_ahead 99 = .ok (.ifCond .le 36, 3) := by decide +kernel
theorem dX12_ahead_102 : decode cX12_ahead 102 = .ok (.aload_n 0, 1) := by decide +kernel
theorem dX12_ahead_103 : decode cX12_ahead 103 = .ok (.getfield 7, 3) := by decide +kernel
theorem dX12_ahead_106 : decode cX12_ahead 106 = .ok (.iload_n 1, 1) := by decide +kernel
theorem dX12_ahead_107 : decode cX12_ahead 107 = .ok (.iconst 1, 1) := by decide +kernel
theorem dX12_ahead_108 : decode cX12_ahead 108 = .ok (.isub, 1) := by decide +kernel
theorem dX12_ahead_109 : decode cX12_ahead 109 = .ok (.iaload, 1) := by decide +kernel
theorem dX12_ahead_110 : decode cX12_ahead 110 = .ok (.invokestatic 324, 3) := by decide +kernel
theorem dX12_ahead_113 : decode cX12_ahead 113 = .ok (.ifCond .ne 17, 3) := by decide +kernel
theorem dX12_ahead_116 : decode cX12_ahead 116 = .ok (.aload_n 0, 1) := by decide +kernel
theorem dX12_ahead_117 : decode cX12_ahead 117 = .ok (.getfield 7, 3) := by decide +kernel
theorem dX12_ahead_120 : decode cX12_ahead 120 = .ok (.iload_n 1, 1) := by decide +kernel
theorem dX12_ahead_121 : decode cX12_ahead 121 = .ok (.iconst 1, 1) := by decide +kernel
theorem dX12_ahead_122 : decode cX12_ahead 122 = .ok (.isub, 1) := by decide +kernel
theorem dX12_ahead_123 : decode cX12_ahead 123 = .ok (.iaload, 1) := by decide +kernel
theorem dX12_ahead_124 : decode cX12_ahead 124 = .ok (.invokestatic 328, 3) := by decide +kernel
theorem dX12_ahead_127 : decode cX12_ahead 127 = .ok (.ifCond .eq 8, 3) := by decide +kernel
theorem dX12_ahead_130 : decode cX12_ahead 130 = .ok (.aload_n 0, 1) := by decide +kernel
theorem dX12_ahead_131 : decode cX12_ahead 131 = .ok (.iload_n 1, 1) := by decide +kernel
theorem dX12_ahead_132 : decode cX12_ahead 132 = .ok (.putfield 48, 3) := by decide +kernel
theorem dX12_ahead_135 : decode cX12_ahead 135 = .ok (.aload_n 0, 1) := by decide +kernel
theorem dX12_ahead_136 : decode cX12_ahead 136 = .ok (.iconst 0, 1) := by decide +kernel
theorem dX12_ahead_137 : decode cX12_ahead 137 = .ok (.putfield 29, 3) := by decide +kernel
theorem dX12_ahead_140 : decode cX12_ahead 140 = .ok (.aload_n 0, 1) := by decide +kernel
theorem dX12_ahead_141 : decode cX12_ahead 141 = .ok (.lconst 0, 1) := by decide +kernel
theorem dX12_ahead_142 : decode cX12_ahead 142 = .ok (.putfield 32, 3) := by decide +kernel
theorem dX12_ahead_145 : decode cX12_ahead 145 = .ok (.aload_n 0, 1) := by decide +kernel
theorem dX12_ahead_146 : decode cX12_ahead 146 = .ok (.iconst 3, 1) := by decide +kernel
theorem dX12_ahead_147 : decode cX12_ahead 147 = .ok (.putfield 20, 3) := by decide +kernel
theorem dX12_ahead_150 : decode cX12_ahead 150 = .ok (.aload_n 0, 1) := by decide +kernel
theorem dX12_ahead_151 : decode cX12_ahead 151 = .ok (.iload_n 1, 1) := by decide +kernel
theorem dX12_ahead_152 : decode cX12_ahead 152 = .ok (.iconst 1, 1) := by decide +kernel
theorem dX12_ahead_153 : decode cX12_ahead 153 = .ok (.iadd, 1) := by decide +kernel
theorem dX12_ahead_154 : decode cX12_ahead 154 = .ok (.putfield 26, 3) := by decide +kernel
theorem dX12_ahead_157 : decode cX12_ahead 157 = .ok (.iload_n 2, 1) := by decide +kernel
theorem dX12_ahead_158 : decode cX12_ahead 158 = .ok (.ifCond .ne 18, 3) := by decide +kernel
theorem dX12_ahead_161 : decode cX12_ahead 161 = .ok (.iload_n 3, 1) := by decide +kernel
theorem dX12_ahead_162 : decode cX12_ahead 162 = .ok (.ifCond .ne 14, 3) := by decide +kernel
theorem dX12_ahead_165 : decode cX12_ahead 165 = .ok (.aload_n 0, 1) := by decide +kernel
theorem dX12_ahead_166 : decode cX12_ahead 166 = .ok (.aload_n 0, 1) := by decide +kernel
theorem dX12_ahead_167 : decode cX12_ahead 167 = .ok (.getfield 7, 3) := by decide +kernel
theorem dX12_ahead_170 : decode cX12_ahead 170 = .ok (.iload_n 1, 1) := by decide +kernel
theorem dX12_ahead_171 : decode cX12_ahead 171 = .ok (.iaload, 1) := by decide +kernel
theorem dX12_ahead_172 : decode cX12_ahead 172 = .ok (.putfield 29, 3) := by decide +kernel
theorem dX12_ahead_175 : decode cX12_ahead 175 = .ok (.return_, 1) := by decide +kernel
theorem dX12_ahead_176 : decode cX12_ahead 176 = .ok (.aload_n 0, 1) := by decide +kernel
theorem dX12_ahead_177 : decode cX12_ahead 177 = .ok (.iload_n 2, 1) := by decide +kernel
theorem dX12_ahead_178 : decode cX12_ahead 178 = .ok (.ifCond .eq 7, 3) := by decide +kernel
theorem dX12_ahead_181 : decode cX12_ahead 181 = .ok (.iconst 1, 1) := by decide +kernel
theorem dX12_ahead_182 : decode cX12_ahead 182 = .ok (.goto 4, 3) := by decide +kernel
theorem dX12_ahead_185 : decode cX12_ahead 185 = .ok (.iconst 2, 1) := by decide +kernel
theorem dX12_ahead_186 : decode cX12_ahead 186 = .ok (.putfield 20, 3) := by decide +kernel
theorem dX12_ahead_189 : decode cX12_ahead 189 = .ok (.iload_n 2, 1) := by decide +kernel
theorem dX12_ahead_190 : decode cX12_ahead 190 = .ok (.ifCond .eq 8, 3) := by decide +kernel
theorem dX12_ahead_193 : decode cX12_ahead 193 = .ok (.bipush 6, 2) := by decide +kernel
theorem dX12_ahead_195 : decode cX12_ahead 195 = .ok (.goto 4, 3) := by decide +kernel
theorem dX12_ahead_198 : decode cX12_ahead 198 = .ok (.iconst 4, 1) := by decide +kernel
theorem dX12_ahead_199 : decode cX12_ahead 199 = .ok (.istore 4, 2) := by decide +kernel
theorem dX12_ahead_201 : decode cX12_ahead 201 = .ok (.iconst 0, 1) := by decide +kernel
theorem dX12_ahead_202 : decode cX12_ahead 202 = .ok (.istore 5, 2) := by decide +kernel
theorem dX12_ahead_204 : decode cX12_ahead 204 = .ok (.iload_n 1, 1) := by decide +kernel
theorem dX12_ahead_205 : decode cX12_ahead 205 = .ok (.aload_n 0, 1) := by decide +kernel
theorem dX12_ahead_206 : decode cX12_ahead 206 = .ok (.getfield 17, 3) := by decide +kernel
theorem dX12_ahead_209 : decode cX12_ahead 209 = .ok (.if_icmp .ge 125, 3) := by decide +kernel
theorem dX12_ahead_212 : decode cX12_ahead 212 = .ok (.iload_n 2, 1) := by decide +kernel
theorem dX12_ahead_213 : decode cX12_ahead 213 = .ok (.ifCond .eq 18, 3) := by decide +kernel
theorem dX12_ahead_216 : decode cX12_ahead 216 = .ok (.aload_n 0, 1) := by decide +kernel
theorem dX12_ahead_217 : decode cX12_ahead 217 = .ok (.getfield 7, 3) := by decide +kernel
theorem dX12_ahead_220 : decode cX12_ahead 220 = .ok (.iload_n 1, 1) := by decide +kernel
theorem dX12_ahead_221 : decode cX12_ahead 221 = .ok (.iaload, 1) := by decide +kernel
theorem dX12_ahead_222 : decode cX12_ahead 222 = .ok (.invokestatic 324, 3) := by decide +kernel
theorem dX12_ahead_225 : decode cX12_ahead 225 = .ok (.ifCond .eq 109, 3) := by decide +kernel
theorem dX12_ahead_228 : decode cX12_ahead 228 = .ok (.goto 15, 3) := by decide +kernel
theorem dX12_ahead_231 : decode cX12_ahead 231 = .ok (.aload_n 0, 1) := by decide +kernel
theorem dX12_ahead_232 : decode cX12_ahead 232 = .ok (.getfield 7, 3) := by decide +kernel
theorem dX12_ahead_235 : decode cX12_ahead 235 = .ok (.iload_n 1, 1) := by decide +kernel
theorem dX12_ahead_236 : decode cX12_ahead 236 = .ok (.iaload, 1) := by decide +kernel
theorem dX12_ahead_237 : decode cX12_ahead 237 = .ok (.invokestatic 328, 3) := by decide +kernel
theorem dX12_ahead_240 : decode cX12_ahead 240 = .ok (.ifCond .eq 94, 3) := by decide +kernel
theorem dX12_ahead_243 : decode cX12_ahead 243 = .ok (.iload 5, 2) := by decide +kernel
theorem dX12_ahead_245 : decode cX12_ahead 245 = .ok (.iload 4, 2) := by decide +kernel
theorem dX12_ahead_247 : decode cX12_ahead 247 = .ok (.if_icmp .ne 16, 3) := by decide +kernel
theorem dX12_ahead_250 : decode cX12_ahead 250 = .ok (.aload_n 0, 1) := by decide +kernel
theorem dX12_ahead_251 : decode cX12_ahead 251 = .ok (.getfield 48, 3) := by decide +kernel
theorem dX12_ahead_254 : decode cX12_ahead 254 = .ok (.iconst (-1), 1) := by decide +kernel
theorem dX12_ahead_255 : decode cX12_ahead 255 = .ok (.if_icmp .ne 8, 3) := by decide +kernel
theorem dX12_ahead_258 : decode cX12_ahead 258 = .ok (.aload_n 0, 1) := by decide +kernel
theorem dX12_ahead_259 : decode cX12_ahead 259 = .ok (.iload_n 1, 1) := by decide +kernel
theorem dX12_ahead_260 : decode cX12_ahead 260 = .ok (.putfield 48, 3) := by decide +kernel
theorem dX12_ahead_263 : decode cX12_ahead 263 = .ok (.iload 5, 2) := by decide +kernel
theorem dX12_ahead_265 : decode cX12_ahead 265 = .ok (.iload 4, 2) := by decide +kernel
theorem dX12_ahead_267 : decode cX12_ahead 267 = .ok (.if_icmp .ge 26, 3) := by decide +kernel
theorem dX12_ahead_270 : decode cX12_ahead 270 = .ok (.iload_n 2, 1) := by decide +kernel
theorem dX12_ahead_271 : decode cX12_ahead 271 = .ok (.ifCond .eq 22, 3) := by decide +kernel
theorem dX12_ahead_274 : decode cX12_ahead 274 = .ok (.aload_n 0, 1) := by decide +kernel
theorem dX12_ahead_275 : decode cX12_ahead 275 = .ok (.aload_n 0, 1) := by decide +kernel
theorem dX12_ahead_276 : decode cX12_ahead 276 = .ok (.getfield 32, 3) := by decide +kernel
theorem dX12_ahead_279 : decode cX12_ahead 279 = .ok (.bipush 8, 2) := by decide +kernel
theorem dX12_ahead_281 : decode cX12_ahead 281 = .ok (.lshl, 1) := by decide +kernel
theorem dX12_ahead_282 : decode cX12_ahead 282 = .ok (.aload_n 0, 1) := by decide +kernel
theorem dX12_ahead_283 : decode cX12_ahead 283 = .ok (.getfield 7, 3) := by decide +kernel
theorem dX12_ahead_286 : decode cX12_ahead 286 = .ok (.iload_n 1, 1) := by decide +kernel
theorem dX12_ahead_287 : decode cX12_ahead 287 = .ok (.iaload, 1) := by decide +kernel
theorem dX12_ahead_288 : decode cX12_ahead 288 = .ok (.i2l, 1) := by decide +kernel
theorem dX12_ahead_289 : decode cX12_ahead 289 = .ok (.lor, 1) := by decide +kernel
theorem dX12_ahead_290 : decode cX12_ahead 290 = .ok (.putfield 32, 3) := by decide +kernel
theorem dX12_ahead_293 : decode cX12_ahead 293 = .ok (.iload 5, 2) := by decide +kernel
theorem dX12_ahead_295 : decode cX12_ahead 295 = .ok (.iload 4, 2) := by decide +kernel
theorem dX12_ahead_297 : decode cX12_ahead 297 = .ok (.if_icmp .ge 28, 3) := by decide +kernel
theorem dX12_ahead_300 : decode cX12_ahead 300 = .ok (.iload_n 3, 1) := by decide +kernel
theorem dX12_ahead_301 : decode cX12_ahead 301 = .ok (.ifCond .eq 24, 3) := by decide +kernel
theorem dX12_ahead_304 : decode cX12_ahead 304 = .ok (.aload_n 0, 1) := by decide +kernel
theorem dX12_ahead_305 : decode cX12_ahead 305 = .ok (.bipush 10, 2) := by decide +kernel
theorem dX12_ahead_307 : decode cX12_ahead 307 = .ok (.aload_n 0, 1) := by decide +kernel
theorem dX12_ahead_308 : decode cX12_ahead 308 = .ok (.getfield 29, 3) := by decide +kernel
theorem dX12_ahead_311 : decode cX12_ahead 311 = .ok (.imul, 1) := by decide +kernel
theorem dX12_ahead_312 : decode cX12_ahead 312 = .ok (.aload_n 0, 1) := by decide +kernel
theorem dX12_ahead_313 : decode cX12_ahead 313 = .ok (.getfield 7, 3) := by decide +kernel
theorem dX12_ahead_316 : decode cX12_ahead 316 = .ok (.iload_n 1, 1) := by decide +kernel
theorem dX12_ahead_317 : decode cX12_ahead 317 = .ok (.iaload, 1) := by decide +kernel
theorem dX12_ahead_318 : decode cX12_ahead 318 = .ok (.iadd, 1) := by decide +kernel
theorem dX12_ahead_319 : decode cX12_ahead 319 = .ok (.bipush 48, 2) := by decide +kernel
theorem dX12_ahead_321 : decode cX12_ahead 321 = .ok (.isub, 1) := by decide +kernel
theorem dX12_ahead_322 : decode cX12_ahead 322 = .ok (.putfield 29, 3) := by decide +kernel
theorem dX12_ahead_325 : decode cX12_ahead 325 = .ok (.iinc 5 1, 3) := by decide +kernel
theorem dX12_ahead_328 : decode cX12_ahead 328 = .ok (.iinc 1 1, 3) := by decide +kernel
theorem dX12_ahead_331 : decode cX12_ahead 331 = .ok (.goto (-127), 3) := by decide +kernel
theorem dX12_ahead_334 : decode cX12_ahead 334 = .ok (.aload_n 0, 1) := by decide +kernel
theorem dX12_ahead_335 : decode cX12_ahead 335 = .ok (.iload_n 1, 1) := by decide +kernel
theorem dX12_ahead_336 : decode cX12_ahead 336 = .ok (.putfield 26, 3) := by decide +kernel
theorem dX12_ahead_339 : decode cX12_ahead 339 = .ok (.return_, 1) := by decide +kernel
theorem dX12_isSign_0 : decode cX12_isSign 0 = .ok (.aload_n 0, 1) := by decide +kernel
theorem dX12_isSign_1 : decode cX12_isSign 1 = .ok (.getfield 20, 3) := by decide +kernel
theorem dX12_isSign_4 : decode cX12_isSign 4 = .ok (.iconst 3, 1) := by decide +kernel
theorem dX12_isSign_5 : decode cX12_isSign 5 = .ok (.if_icmp .ne 15, 3) := by decide +kernel
theorem dX12_isSign_8 : decode cX12_isSign 8 = .ok (.aload_n 0, 1) := by decide +kernel
theorem dX12_isSign_9 : decode cX12_isSign 9 = .ok (.getfield 29, 3) := by decide +kernel
theorem dX12_isSign_12 : decode cX12_isSign 12 = .ok (.iload_n 1, 1) := by decide +kernel
theorem dX12_isSign_13 : decode cX12_isSign 13 = .ok (.if_icmp .ne 7, 3) := by decide +kernel
theorem dX12_isSign_16 : decode cX12_isSign 16 = .ok (.iconst 1, 1) := by decide +kernel
theorem dX12_isSign_17 : decode cX12_isSign 17 = .ok (.goto 4, 3) := by decide +kernel
theorem dX12_isSign_20 : decode cX12_isSign 20 = .ok (.iconst 0, 1) := by decide +kernel
theorem dX12_isSign_21 : decode cX12_isSign 21 = .ok (.ireturn, 1) := by decide +kernel
theorem dX12_isWord_0 : decode cX12_isWord 0 = .ok (.aload_n 0, 1) := by decide +kernel
theorem dX12_isWord_1 : decode cX12_isWord 1 = .ok (.getfield 20, 3) := by decide +kernel
theorem dX12_isWord_4 : decode cX12_isWord 4 = .ok (.iconst 1, 1) := by decide +kernel
theorem dX12_isWord_5 : decode cX12_isWord 5 = .ok (.if_icmp .ne 16, 3) := by decide +kernel
theorem dX12_isWord_8 : decode cX12_isWord 8 = .ok (.aload_n 0, 1) := by decide +kernel
theorem dX12_isWord_9 : decode cX12_isWord 9 = .ok (.getfield 32, 3) := by decide +kernel
theorem dX12_isWord_12 : decode cX12_isWord 12 = .ok (.lload_n 1, 1) := by decide +kernel
theorem dX12_isWord_13 : decode cX12_isWord 13 = .ok (.lcmp, 1) := by decide +kernel
theorem dX12_isWord_14 : decode cX12_isWord 14 = .ok (.ifCond .ne 7, 3) := by decide +kernel
theorem dX12_isWord_17 : decode cX12_isWord 17 = .ok (.iconst 1, 1) := by decide +kernel
theorem dX12_isWord_18 : decode cX12_isWord 18 = .ok (.goto 4, 3) := by decide +kernel
theorem dX12_isWord_21 : decode cX12_isWord 21 = .ok (.iconst 0, 1) := by decide +kernel
theorem dX12_isWord_22 : decode cX12_isWord 22 = .ok (.ireturn, 1) := by decide +kernel
theorem dX12_must_0 : decode cX12_must 0 = .ok (.aload_n 0, 1) := by decide +kernel
theorem dX12_must_1 : decode cX12_must 1 = .ok (.invokevirtual 331, 3) := by decide +kernel
theorem dX12_must_4 : decode cX12_must 4 = .ok (.aload_n 0, 1) := by decide +kernel
theorem dX12_must_5 : decode cX12_must 5 = .ok (.iload_n 1, 1) := by decide +kernel
theorem dX12_must_6 : decode cX12_must 6 = .ok (.invokevirtual 334, 3) := by decide +kernel
theorem dX12_must_9 : decode cX12_must 9 = .ok (.ifCond .ne 12, 3) := by decide +kernel
theorem dX12_must_12 : decode cX12_must 12 = .ok (.aload_n 0, 1) := by decide +kernel
theorem dX12_must_13 : decode cX12_must 13 = .ok (.iconst 1, 1) := by decide +kernel
theorem dX12_must_14 : decode cX12_must 14 = .ok (.aload_n 0, 1) := by decide +kernel
theorem dX12_must_15 : decode cX12_must 15 = .ok (.getfield 23, 3) := by decide +kernel
theorem dX12_must_18 : decode cX12_must 18 = .ok (.invokevirtual 320, 3) := by decide +kernel
theorem dX12_must_21 : decode cX12_must 21 = .ok (.aload_n 0, 1) := by decide +kernel
theorem dX12_must_22 : decode cX12_must 22 = .ok (.getfield 36, 3) := by decide +kernel
theorem dX12_must_25 : decode cX12_must 25 = .ok (.ifCond .ne 7, 3) := by decide +kernel
theorem dX12_must_28 : decode cX12_must 28 = .ok (.aload_n 0, 1) := by decide +kernel
theorem dX12_must_29 : decode cX12_must 29 = .ok (.invokevirtual 337, 3) := by decide +kernel
theorem dX12_must_32 : decode cX12_must 32 = .ok (.return_, 1) := by decide +kernel
theorem dX12_isOwn_0 : decode cX12_isOwn 0 = .ok (.lload_n 1, 1) := by decide +kernel
theorem dX12_isOwn_1 : decode cX12_isOwn 1 = .ok (.ldc2_w 340, 3) := by decide +kernel
theorem dX12_isOwn_4 : decode cX12_isOwn 4 = .ok (.lcmp, 1) := by decide +kernel
theorem dX12_isOwn_5 : decode cX12_isOwn 5 = .ok (.ifCond .eq 35, 3) := by decide +kernel
theorem dX12_isOwn_8 : decode cX12_isOwn 8 = .ok (.lload_n 1, 1) := by decide +kernel
theorem dX12_isOwn_9 : decode cX12_isOwn 9 = .ok (.ldc2_w 342, 3) := by decide +kernel
theorem dX12_isOwn_12 : decode cX12_isOwn 12 = .ok (.lcmp, 1) := by decide +kernel
theorem dX12_isOwn_13 : decode cX12_isOwn 13 = .ok (.ifCond .eq 27, 3) := by decide +kernel
theorem dX12_isOwn_16 : decode cX12_isOwn 16 = .ok (.lload_n 1, 1) := by decide +kernel
theorem dX12_isOwn_17 : decode cX12_isOwn 17 = .ok (.ldc2_w 344, 3) := by decide +kernel
theorem dX12_isOwn_20 : decode cX12_isOwn 20 = .ok (.lcmp, 1) := by decide +kernel
theorem dX12_isOwn_21 : decode cX12_isOwn 21 = .ok (.ifCond .eq 19, 3) := by decide +kernel
theorem dX12_isOwn_24 : decode cX12_isOwn 24 = .ok (.lload_n 1, 1) := by decide +kernel
theorem dX12_isOwn_25 : decode cX12_isOwn 25 = .ok (.ldc2_w 346, 3) := by decide +kernel
theorem dX12_isOwn_28 : decode cX12_isOwn 28 = .ok (.lcmp, 1) := by decide +kernel
theorem dX12_isOwn_29 : decode cX12_isOwn 29 = .ok (.ifCond .eq 11, 3) := by decide +kernel
theorem dX12_isOwn_32 : decode cX12_isOwn 32 = .ok (.lload_n 1, 1) := by decide +kernel
theorem dX12_isOwn_33 : decode cX12_isOwn 33 = .ok (.ldc2_w 348, 3) := by decide +kernel
theorem dX12_isOwn_36 : decode cX12_isOwn 36 = .ok (.lcmp, 1) := by decide +kernel
theorem dX12_isOwn_37 : decode cX12_isOwn 37 = .ok (.ifCond .ne 5, 3) := by decide +kernel
theorem dX12_isOwn_40 : decode cX12_isOwn 40 = .ok (.iconst 1, 1) := by decide +kernel
theorem dX12_isOwn_41 : decode cX12_isOwn 41 = .ok (.ireturn, 1) := by decide +kernel
theorem dX12_isOwn_42 : decode cX12_isOwn 42 = .ok (.lload_n 1, 1) := by decide +kernel
theorem dX12_isOwn_43 : decode cX12_isOwn 43 = .ok (.ldc2_w 350, 3) := by decide +kernel
theorem dX12_isOwn_46 : decode cX12_isOwn 46 = .ok (.lcmp, 1) := by decide +kernel
theorem dX12_isOwn_47 : decode cX12_isOwn 47 = .ok (.ifCond .eq 35, 3) := by decide +kernel
theorem dX12_isOwn_50 : decode cX12_isOwn 50 = .ok (.lload_n 1, 1) := by decide +kernel
theorem dX12_isOwn_51 : decode cX12_isOwn 51 = .ok (.ldc2_w 352, 3) := by decide +kernel
theorem dX12_isOwn_54 : decode cX12_isOwn 54 = .ok (.lcmp, 1) := by decide +kernel
theorem dX12_isOwn_55 : decode cX12_isOwn 55 = .ok (.ifCond .eq 27, 3) := by decide +kernel
theorem dX12_isOwn_58 : decode cX12_isOwn 58 = .ok (.lload_n 1, 1) := by decide +kernel
theorem dX12_isOwn_59 : decode cX12_isOwn 59 = .ok (.ldc2_w 354, 3) := by decide +kernel
theorem dX12_isOwn_62 : decode cX12_isOwn 62 = .ok (.lcmp, 1) := by decide +kernel
theorem dX12_isOwn_63 : decode cX12_isOwn 63 = .ok (.ifCond .eq 19, 3) := by decide +kernel
theorem dX12_isOwn_66 : decode cX12_isOwn 66 = .ok (.lload_n 1, 1) := by decide +kernel
theorem dX12_isOwn_67 : decode cX12_isOwn 67 = .ok (.ldc2_w 356, 3) := by decide +kernel
theorem dX12_isOwn_70 : decode cX12_isOwn 70 = .ok (.lcmp, 1) := by decide +kernel
theorem dX12_isOwn_71 : decode cX12_isOwn 71 = .ok (.ifCond .eq 11, 3) := by decide +kernel
theorem dX12_isOwn_74 : decode cX12_isOwn 74 = .ok (.lload_n 1, 1) := by decide +kernel
theorem dX12_isOwn_75 : decode cX12_isOwn 75 = .ok (.ldc2_w 358, 3) := by decide +kernel
theorem dX12_isOwn_78 : decode cX12_isOwn 78 = .ok (.lcmp, 1) := by decide +kernel
theorem dX12_isOwn_79 : decode cX12_isOwn 79 = .ok (.ifCond .ne 5, 3) := by decide +kernel
theorem dX12_isOwn_82 : decode cX12_isOwn 82 = .ok (.iconst 1, 1) := by decide +kernel
theorem dX12_isOwn_83 : decode cX12_isOwn 83 = .ok (.ireturn, 1) := by decide +kernel
theorem dX12_isOwn_84 : decode cX12_isOwn 84 = .ok (.lload_n 1, 1) := by decide +kernel
theorem dX12_isOwn_85 : decode cX12_isOwn 85 = .ok (.ldc2_w 360, 3) := by decide +kernel
theorem dX12_isOwn_88 : decode cX12_isOwn 88 = .ok (.lcmp, 1) := by decide +kernel
theorem dX12_isOwn_89 : decode cX12_isOwn 89 = .ok (.ifCond .ne 5, 3) := by decide +kernel
theorem dX12_isOwn_92 : decode cX12_isOwn 92 = .ok (.iconst 1, 1) := by decide +kernel
theorem dX12_isOwn_93 : decode cX12_isOwn 93 = .ok (.ireturn, 1) := by decide +kernel
theorem dX12_isOwn_94 : decode cX12_isOwn 94 = .ok (.iconst 0, 1) := by decide +kernel
theorem dX12_isOwn_95 : decode cX12_isOwn 95 = .ok (.ireturn, 1) := by decide +kernel
theorem dX12_number_0 : decode cX12_number 0 = .ok (.aload_n 0, 1) := by decide +kernel
theorem dX12_number_1 : decode cX12_number 1 = .ok (.invokevirtual 331, 3) := by decide +kernel
theorem dX12_number_4 : decode cX12_number 4 = .ok (.aload_n 0, 1) := by decide +kernel
theorem dX12_number_5 : decode cX12_number 5 = .ok (.getfield 36, 3) := by decide +kernel
theorem dX12_number_8 : decode cX12_number 8 = .ok (.ifCond .le 5, 3) := by decide +kernel
theorem dX12_number_11 : decode cX12_number 11 = .ok (.iconst 0, 1) := by decide +kernel
theorem dX12_number_12 : decode cX12_number 12 = .ok (.ireturn, 1) := by decide +kernel
theorem dX12_number_13 : decode cX12_number 13 = .ok (.aload_n 0, 1) := by decide +kernel
theorem dX12_number_14 : decode cX12_number 14 = .ok (.getfield 20, 3) := by decide +kernel
theorem dX12_number_17 : decode cX12_number 17 = .ok (.iconst 2, 1) := by decide +kernel
theorem dX12_number_18 : decode cX12_number 18 = .ok (.if_icmp .eq 12, 3) := by decide +kernel
theorem dX12_number_21 : decode cX12_number 21 = .ok (.aload_n 0, 1) := by decide +kernel
theorem dX12_number_22 : decode cX12_number 22 = .ok (.iconst 1, 1) := by decide +kernel
theorem dX12_number_23 : decode cX12_number 23 = .ok (.aload_n 0, 1) := by decide +kernel
theorem dX12_number_24 : decode cX12_number 24 = .ok (.getfield 23, 3) := by decide +kernel
theorem dX12_number_27 : decode cX12_number 27 = .ok (.invokevirtual 320, 3) := by decide +kernel
theorem dX12_number_30 : decode cX12_number 30 = .ok (.aload_n 0, 1) := by decide +kernel
theorem dX12_number_31 : decode cX12_number 31 = .ok (.getfield 36, 3) := by decide +kernel
theorem dX12_number_34 : decode cX12_number 34 = .ok (.ifCond .ne 24, 3) := by decide +kernel
theorem dX12_number_37 : decode cX12_number 37 = .ok (.aload_n 0, 1) := by decide +kernel
theorem dX12_number_38 : decode cX12_number 38 = .ok (.getfield 29, 3) := by decide +kernel
theorem dX12_number_41 : decode cX12_number 41 = .ok (.iload_n 1, 1) := by decide +kernel
theorem dX12_number_42 : decode cX12_number 42 = .ok (.iload_n 2, 1) := by decide +kernel
theorem dX12_number_43 : decode cX12_number 43 = .ok (.invokestatic 362, 3) := by decide +kernel
theorem dX12_number_46 : decode cX12_number 46 = .ok (.ifCond .ne 12, 3) := by decide +kernel
theorem dX12_number_49 : decode cX12_number 49 = .ok (.aload_n 0, 1) := by decide +kernel
theorem dX12_number_50 : decode cX12_number 50 = .ok (.iconst 4, 1) := by decide +kernel
theorem dX12_number_51 : decode cX12_number 51 = .ok (.aload_n 0, 1) := by decide +kernel
theorem dX12_number_52 : decode cX12_number 52 = .ok (.getfield 23, 3) := by decide +kernel
theorem dX12_number_55 : decode cX12_number 55 = .ok (.invokevirtual 320, 3) := by decide +kernel
theorem dX12_number_58 : decode cX12_number 58 = .ok (.aload_n 0, 1) := by decide +kernel
theorem dX12_number_59 : decode cX12_number 59 = .ok (.getfield 29, 3) := by decide +kernel
theorem dX12_number_62 : decode cX12_number 62 = .ok (.istore_n 3, 1) := by decide +kernel
theorem dX12_number_63 : decode cX12_number 63 = .ok (.aload_n 0, 1) := by decide +kernel
theorem dX12_number_64 : decode cX12_number 64 = .ok (.getfield 36, 3) := by decide +kernel
theorem dX12_number_67 : decode cX12_number 67 = .ok (.ifCond .ne 7, 3) := by decide +kernel
theorem dX12_number_70 : decode cX12_number 70 = .ok (.aload_n 0, 1) := by decide +kernel
theorem dX12_number_71 : decode cX12_number 71 = .ok (.invokevirtual 337, 3) := by decide +kernel
theorem dX12_number_74 : decode cX12_number 74 = .ok (.iload_n 3, 1) := by decide +kernel
theorem dX12_number_75 : decode cX12_number 75 = .ok (.ireturn, 1) := by decide +kernel
theorem dX12_isCounted_0 : decode cX12_isCounted 0 = .ok (.aload_n 0, 1) := by decide +kernel
theorem dX12_isCounted_1 : decode cX12_isCounted 1 = .ok (.getfield 36, 3) := by decide +kernel
theorem dX12_isCounted_4 : decode cX12_isCounted 4 = .ok (.ifCond .ne 17, 3) := by decide +kernel
theorem dX12_isCounted_7 : decode cX12_isCounted 7 = .ok (.iload_n 1, 1) := by decide +kernel
theorem dX12_isCounted_8 : decode cX12_isCounted 8 = .ok (.ifCond .eq 13, 3) := by decide +kernel
theorem dX12_isCounted_11 : decode cX12_isCounted 11 = .ok (.aload_n 0, 1) := by decide +kernel
theorem dX12_isCounted_12 : decode cX12_isCounted 12 = .ok (.bipush 6, 2) := by decide +kernel
theorem dX12_isCounted_14 : decode cX12_isCounted 14 = .ok (.aload_n 0, 1) := by decide +kernel
theorem dX12_isCounted_15 : decode cX12_isCounted 15 = .ok (.getfield 23, 3) := by decide +kernel
theorem dX12_isCounted_18 : decode cX12_isCounted 18 = .ok (.invokevirtual 320, 3) := by decide +kernel
theorem dX12_isCounted_21 : decode cX12_isCounted 21 = .ok (.aload_n 0, 1) := by decide +kernel
theorem dX12_isCounted_22 : decode cX12_isCounted 22 = .ok (.getfield 36, 3) := by decide +kernel
theorem dX12_isCounted_25 : decode cX12_isCounted 25 = .ok (.ifCond .ne 7, 3) := by decide +kernel
theorem dX12_isCounted_28 : decode cX12_isCounted 28 = .ok (.aload_n 0, 1) := by decide +kernel
theorem dX12_isCounted_29 : decode cX12_isCounted 29 = .ok (.invokevirtual 337, 3) := by decide +kernel
theorem dX12_isCounted_32 : decode cX12_isCounted 32 = .ok (.aload_n 0, 1) := by decide +kernel
theorem dX12_isCounted_33 : decode cX12_isCounted 33 = .ok (.getfield 36, 3) := by decide +kernel
theorem dX12_isCounted_36 : decode cX12_isCounted 36 = .ok (.ifCond .ne 7, 3) := by decide +kernel
theorem dX12_isCounted_39 : decode cX12_isCounted 39 = .ok (.iconst 1, 1) := by decide +kernel
theorem dX12_isCounted_40 : decode cX12_isCounted 40 = .ok (.goto 4, 3) := by decide +kernel
theorem dX12_isCounted_43 : decode cX12_isCounted 43 = .ok (.iconst 0, 1) := by decide +kernel
theorem dX12_isCounted_44 : decode cX12_isCounted 44 = .ok (.ireturn, 1) := by decide +kernel
theorem dX12_kindNamed_0 : decode cX12_kindNamed 0 = .ok (.iconst 0, 1) := by decide +kernel
theorem dX12_kindNamed_1 : decode cX12_kindNamed 1 = .ok (.istore_n 3, 1) := by decide +kernel
theorem dX12_kindNamed_2 : decode cX12_kindNamed 2 = .ok (.iload_n 3, 1) := by decide +kernel
theorem dX12_kindNamed_3 : decode cX12_kindNamed 3 = .ok (.aload_n 0, 1) := by decide +kernel
theorem dX12_kindNamed_4 : decode cX12_kindNamed 4 = .ok (.getfield 54, 3) := by decide +kernel
theorem dX12_kindNamed_7 : decode cX12_kindNamed 7 = .ok (.aload_n 0, 1) := by decide +kernel
theorem dX12_kindNamed_8 : decode cX12_kindNamed 8 = .ok (.getfield 124, 3) := by decide +kernel
theorem dX12_kindNamed_11 : decode cX12_kindNamed 11 = .ok (.iaload, 1) := by decide +kernel
theorem dX12_kindNamed_12 : decode cX12_kindNamed 12 = .ok (.if_icmp .ge 29, 3) := by decide +kernel
theorem dX12_kindNamed_15 : decode cX12_kindNamed 15 = .ok (.aload_n 0, 1) := by decide +kernel
theorem dX12_kindNamed_16 : decode cX12_kindNamed 16 = .ok (.getfield 114, 3) := by decide +kernel
theorem dX12_kindNamed_19 : decode cX12_kindNamed 19 = .ok (.iconst 4, 1) := by decide +kernel
theorem dX12_kindNamed_20 : decode cX12_kindNamed 20 = .ok (.aload_n 0, 1) := by decide +kernel
theorem dX12_kindNamed_21 : decode cX12_kindNamed 21 = .ok (.getfield 124, 3) := by decide +kernel
theorem dX12_kindNamed_24 : decode cX12_kindNamed 24 = .ok (.imul, 1) := by decide +kernel
theorem dX12_kindNamed_25 : decode cX12_kindNamed 25 = .ok (.iload_n 3, 1) := by decide +kernel
theorem dX12_kindNamed_26 : decode cX12_kindNamed 26 = .ok (.iadd, 1) := by decide +kernel
theorem dX12_kindNamed_27 : decode cX12_kindNamed 27 = .ok (.laload, 1) := by decide +kernel
theorem dX12_kindNamed_28 : decode cX12_kindNamed 28 = .ok (.lload_n 1, 1) := by decide +kernel
theorem dX12_kindNamed_29 : decode cX12_kindNamed 29 = .ok (.lcmp, 1) := by decide +kernel
theorem dX12_kindNamed_30 : decode cX12_kindNamed 30 = .ok (.ifCond .ne 5, 3) := by decide +kernel
theorem dX12_kindNamed_33 : decode cX12_kindNamed 33 = .ok (.iload_n 3, 1) := by decide +kernel
theorem dX12_kindNamed_34 : decode cX12_kindNamed 34 = .ok (.ireturn, 1) := by decide +kernel
theorem dX12_kindNamed_35 : decode cX12_kindNamed 35 = .ok (.iinc 3 1, 3) := by decide +kernel
theorem dX12_kindNamed_38 : decode cX12_kindNamed 38 = .ok (.goto (-36), 3) := by decide +kernel
theorem dX12_kindNamed_41 : decode cX12_kindNamed 41 = .ok (.iconst (-1), 1) := by decide +kernel
theorem dX12_kindNamed_42 : decode cX12_kindNamed 42 = .ok (.ireturn, 1) := by decide +kernel
theorem dX12_conNamed_0 : decode cX12_conNamed 0 = .ok (.iconst 0, 1) := by decide +kernel
theorem dX12_conNamed_1 : decode cX12_conNamed 1 = .ok (.istore 4, 2) := by decide +kernel
theorem dX12_conNamed_3 : decode cX12_conNamed 3 = .ok (.iload 4, 2) := by decide +kernel
theorem dX12_conNamed_5 : decode cX12_conNamed 5 = .ok (.aload_n 0, 1) := by decide +kernel
theorem dX12_conNamed_6 : decode cX12_conNamed 6 = .ok (.getfield 63, 3) := by decide +kernel
theorem dX12_conNamed_9 : decode cX12_conNamed 9 = .ok (.iload_n 1, 1) := by decide +kernel
theorem dX12_conNamed_10 : decode cX12_conNamed 10 = .ok (.iaload, 1) := by decide +kernel
theorem dX12_conNamed_11 : decode cX12_conNamed 11 = .ok (.if_icmp .ge 29, 3) := by decide +kernel
theorem dX12_conNamed_14 : decode cX12_conNamed 14 = .ok (.aload_n 0, 1) := by decide +kernel
theorem dX12_conNamed_15 : decode cX12_conNamed 15 = .ok (.getfield 118, 3) := by decide +kernel
theorem dX12_conNamed_18 : decode cX12_conNamed 18 = .ok (.bipush 24, 2) := by decide +kernel
theorem dX12_conNamed_20 : decode cX12_conNamed 20 = .ok (.iload_n 1, 1) := by decide +kernel
theorem dX12_conNamed_21 : decode cX12_conNamed 21 = .ok (.imul, 1) := by decide +kernel
theorem dX12_conNamed_22 : decode cX12_conNamed 22 = .ok (.iload 4, 2) := by decide +kernel
theorem dX12_conNamed_24 : decode cX12_conNamed 24 = .ok (.iadd, 1) := by decide +kernel
theorem dX12_conNamed_25 : decode cX12_conNamed 25 = .ok (.laload, 1) := by decide +kernel
theorem dX12_conNamed_26 : decode cX12_conNamed 26 = .ok (.lload_n 2, 1) := by decide +kernel
theorem dX12_conNamed_27 : decode cX12_conNamed 27 = .ok (.lcmp, 1) := by decide +kernel
theorem dX12_conNamed_28 : decode cX12_conNamed 28 = .ok (.ifCond .ne 6, 3) := by decide +kernel
theorem dX12_conNamed_31 : decode cX12_conNamed 31 = .ok (.iload 4, 2) := by decide +kernel
theorem dX12_conNamed_33 : decode cX12_conNamed 33 = .ok (.ireturn, 1) := by decide +kernel
theorem dX12_conNamed_34 : decode cX12_conNamed 34 = .ok (.iinc 4 1, 3) := by decide +kernel
theorem dX12_conNamed_37 : decode cX12_conNamed 37 = .ok (.goto (-34), 3) := by decide +kernel
theorem dX12_conNamed_40 : decode cX12_conNamed 40 = .ok (.iconst (-1), 1) := by decide +kernel
theorem dX12_conNamed_41 : decode cX12_conNamed 41 = .ok (.ireturn, 1) := by decide +kernel
theorem dX12_valuesOf_0 : decode cX12_valuesOf 0 = .ok (.iload_n 2, 1) := by decide +kernel
theorem dX12_valuesOf_1 : decode cX12_valuesOf 1 = .ok (.iconst 4, 1) := by decide +kernel
theorem dX12_valuesOf_2 : decode cX12_valuesOf 2 = .ok (.if_icmp .ne 8, 3) := by decide +kernel
theorem dX12_valuesOf_5 : decode cX12_valuesOf 5 = .ok (.bipush 20, 2) := by decide +kernel
theorem dX12_valuesOf_7 : decode cX12_valuesOf 7 = .ok (.goto 13, 3) := by decide +kernel
theorem dX12_valuesOf_10 : decode cX12_valuesOf 10 = .ok (.aload_n 0, 1) := by decide +kernel
theorem dX12_valuesOf_11 : decode cX12_valuesOf 11 = .ok (.getfield 57, 3) := by decide +kernel
theorem dX12_valuesOf_14 : decode cX12_valuesOf 14 = .ok (.iconst 4, 1) := by decide +kernel
theorem dX12_valuesOf_15 : decode cX12_valuesOf 15 = .ok (.iload_n 1, 1) := by decide +kernel
theorem dX12_valuesOf_16 : decode cX12_valuesOf 16 = .ok (.imul, 1) := by decide +kernel
theorem dX12_valuesOf_17 : decode cX12_valuesOf 17 = .ok (.iload_n 2, 1) := by decide +kernel
theorem dX12_valuesOf_18 : decode cX12_valuesOf 18 = .ok (.iadd, 1) := by decide +kernel
theorem dX12_valuesOf_19 : decode cX12_valuesOf 19 = .ok (.iaload, 1) := by decide +kernel
theorem dX12_valuesOf_20 : decode cX12_valuesOf 20 = .ok (.ireturn, 1) := by decide +kernel
theorem dX12_fresh_0 : decode cX12_fresh 0 = .ok (.aload_n 0, 1) := by decide +kernel
theorem dX12_fresh_1 : decode cX12_fresh 1 = .ok (.invokevirtual 331, 3) := by decide +kernel
theorem dX12_fresh_4 : decode cX12_fresh 4 = .ok (.aload_n 0, 1) := by decide +kernel
theorem dX12_fresh_5 : decode cX12_fresh 5 = .ok (.getfield 36, 3) := by decide +kernel
theorem dX12_fresh_8 : decode cX12_fresh 8 = .ok (.ifCond .le 5, 3) := by decide +kernel
theorem dX12_fresh_11 : decode cX12_fresh 11 = .ok (.lconst 0, 1) := by decide +kernel
end
section
theorem dX12_fresh_12 : decode cX12_fresh 12 = .ok (.lreturn, 1) := by decide +kernel
theorem dX12_fresh_13 : decode cX12_fresh 13 = .ok (.aload_n 0, 1) := by decide +kernel
theorem dX12_fresh_14 : decode cX12_fresh 14 = .ok (.getfield 20, 3) := by decide +kernel
theorem dX12_fresh_17 : decode cX12_fresh 17 = .ok (.iconst 1, 1) := by decide +kernel
theorem dX12_fresh_18 : decode cX12_fresh 18 = .ok (.if_icmp .ne 14, 3) := by decide +kernel
theorem dX12_fresh_21 : decode cX12_fresh 21 = .ok (.aload_n 0, 1) := by decide +kernel
theorem dX12_fresh_22 : decode cX12_fresh 22 = .ok (.aload_n 0, 1) := by decide +kernel
theorem dX12_fresh_23 : decode cX12_fresh 23 = .ok (.getfield 32, 3) := by decide +kernel
theorem dX12_fresh_26 : decode cX12_fresh 26 = .ok (.invokevirtual 366, 3) := by decide +kernel
theorem dX12_fresh_29 : decode cX12_fresh 29 = .ok (.ifCond .eq 12, 3) := by decide +kernel
theorem dX12_fresh_32 : decode cX12_fresh 32 = .ok (.aload_n 0, 1) := by decide +kernel
theorem dX12_fresh_33 : decode cX12_fresh 33 = .ok (.iconst 1, 1) := by decide +kernel
theorem dX12_fresh_34 : decode cX12_fresh 34 = .ok (.aload_n 0, 1) := by decide +kernel
theorem dX12_fresh_35 : decode cX12_fresh 35 = .ok (.getfield 23, 3) := by decide +kernel
theorem dX12_fresh_38 : decode cX12_fresh 38 = .ok (.invokevirtual 320, 3) := by decide +kernel
theorem dX12_fresh_41 : decode cX12_fresh 41 = .ok (.aload_n 0, 1) := by decide +kernel
theorem dX12_fresh_42 : decode cX12_fresh 42 = .ok (.getfield 36, 3) := by decide +kernel
theorem dX12_fresh_45 : decode cX12_fresh 45 = .ok (.ifCond .ne 40, 3) := by decide +kernel
theorem dX12_fresh_48 : decode cX12_fresh 48 = .ok (.aload_n 0, 1) := by decide +kernel
theorem dX12_fresh_49 : decode cX12_fresh 49 = .ok (.aload_n 0, 1) := by decide +kernel
theorem dX12_fresh_50 : decode cX12_fresh 50 = .ok (.getfield 32, 3) := by decide +kernel
theorem dX12_fresh_53 : decode cX12_fresh 53 = .ok (.invokevirtual 370, 3) := by decide +kernel
theorem dX12_fresh_56 : decode cX12_fresh 56 = .ok (.iconst (-1), 1) := by decide +kernel
theorem dX12_fresh_57 : decode cX12_fresh 57 = .ok (.if_icmp .ne 19, 3) := by decide +kernel
theorem dX12_fresh_60 : decode cX12_fresh 60 = .ok (.aload_n 0, 1) := by decide +kernel
theorem dX12_fresh_61 : decode cX12_fresh 61 = .ok (.aload_n 0, 1) := by decide +kernel
theorem dX12_fresh_62 : decode cX12_fresh 62 = .ok (.getfield 124, 3) := by decide +kernel
theorem dX12_fresh_65 : decode cX12_fresh 65 = .ok (.aload_n 0, 1) := by decide +kernel
theorem dX12_fresh_66 : decode cX12_fresh 66 = .ok (.getfield 32, 3) := by decide +kernel
theorem dX12_fresh_69 : decode cX12_fresh 69 = .ok (.invokevirtual 374, 3) := by decide +kernel
theorem dX12_fresh_72 : decode cX12_fresh 72 = .ok (.iconst (-1), 1) := by decide +kernel
theorem dX12_fresh_73 : decode cX12_fresh 73 = .ok (.if_icmp .eq 12, 3) := by decide +kernel
theorem dX12_fresh_76 : decode cX12_fresh 76 = .ok (.aload_n 0, 1) := by decide +kernel
theorem dX12_fresh_77 : decode cX12_fresh 77 = .ok (.iconst 2, 1) := by decide +kernel
theorem dX12_fresh_78 : decode cX12_fresh 78 = .ok (.aload_n 0, 1) := by decide +kernel
theorem dX12_fresh_79 : decode cX12_fresh 79 = .ok (.getfield 23, 3) := by decide +kernel
theorem dX12_fresh_82 : decode cX12_fresh 82 = .ok (.invokevirtual 320, 3) := by decide +kernel
theorem dX12_fresh_85 : decode cX12_fresh 85 = .ok (.aload_n 0, 1) := by decide +kernel
theorem dX12_fresh_86 : decode cX12_fresh 86 = .ok (.getfield 32, 3) := by decide +kernel
theorem dX12_fresh_89 : decode cX12_fresh 89 = .ok (.lstore_n 1, 1) := by decide +kernel
theorem dX12_fresh_90 : decode cX12_fresh 90 = .ok (.aload_n 0, 1) := by decide +kernel
theorem dX12_fresh_91 : decode cX12_fresh 91 = .ok (.getfield 36, 3) := by decide +kernel
theorem dX12_fresh_94 : decode cX12_fresh 94 = .ok (.ifCond .ne 7, 3) := by decide +kernel
theorem dX12_fresh_97 : decode cX12_fresh 97 = .ok (.aload_n 0, 1) := by decide +kernel
theorem dX12_fresh_98 : decode cX12_fresh 98 = .ok (.invokevirtual 337, 3) := by decide +kernel
theorem dX12_fresh_101 : decode cX12_fresh 101 = .ok (.lload_n 1, 1) := by decide +kernel
theorem dX12_fresh_102 : decode cX12_fresh 102 = .ok (.lreturn, 1) := by decide +kernel
theorem dX12_kindIs_0 : decode cX12_kindIs 0 = .ok (.aload_n 0, 1) := by decide +kernel
theorem dX12_kindIs_1 : decode cX12_kindIs 1 = .ok (.getfield 127, 3) := by decide +kernel
theorem dX12_kindIs_4 : decode cX12_kindIs 4 = .ok (.ifCond .eq 12, 3) := by decide +kernel
theorem dX12_kindIs_7 : decode cX12_kindIs 7 = .ok (.aload_n 0, 1) := by decide +kernel
theorem dX12_kindIs_8 : decode cX12_kindIs 8 = .ok (.iconst 1, 1) := by decide +kernel
theorem dX12_kindIs_9 : decode cX12_kindIs 9 = .ok (.aload_n 0, 1) := by decide +kernel
theorem dX12_kindIs_10 : decode cX12_kindIs 10 = .ok (.getfield 23, 3) := by decide +kernel
theorem dX12_kindIs_13 : decode cX12_kindIs 13 = .ok (.invokevirtual 320, 3) := by decide +kernel
theorem dX12_kindIs_16 : decode cX12_kindIs 16 = .ok (.aload_n 0, 1) := by decide +kernel
theorem dX12_kindIs_17 : decode cX12_kindIs 17 = .ok (.aload_n 0, 1) := by decide +kernel
theorem dX12_kindIs_18 : decode cX12_kindIs 18 = .ok (.getfield 54, 3) := by decide +kernel
theorem dX12_kindIs_21 : decode cX12_kindIs 21 = .ok (.aload_n 0, 1) := by decide +kernel
theorem dX12_kindIs_22 : decode cX12_kindIs 22 = .ok (.getfield 124, 3) := by decide +kernel
theorem dX12_kindIs_25 : decode cX12_kindIs 25 = .ok (.iaload, 1) := by decide +kernel
theorem dX12_kindIs_26 : decode cX12_kindIs 26 = .ok (.iconst 4, 1) := by decide +kernel
theorem dX12_kindIs_27 : decode cX12_kindIs 27 = .ok (.if_icmp .ne 7, 3) := by decide +kernel
theorem dX12_kindIs_30 : decode cX12_kindIs 30 = .ok (.iconst 1, 1) := by decide +kernel
theorem dX12_kindIs_31 : decode cX12_kindIs 31 = .ok (.goto 4, 3) := by decide +kernel
theorem dX12_kindIs_34 : decode cX12_kindIs 34 = .ok (.iconst 0, 1) := by decide +kernel
theorem dX12_kindIs_35 : decode cX12_kindIs 35 = .ok (.invokevirtual 378, 3) := by decide +kernel
theorem dX12_kindIs_38 : decode cX12_kindIs 38 = .ok (.ifCond .ne 4, 3) := by decide +kernel
theorem dX12_kindIs_41 : decode cX12_kindIs 41 = .ok (.return_, 1) := by decide +kernel
theorem dX12_kindIs_42 : decode cX12_kindIs 42 = .ok (.aload_n 0, 1) := by decide +kernel
theorem dX12_kindIs_43 : decode cX12_kindIs 43 = .ok (.invokevirtual 382, 3) := by decide +kernel
theorem dX12_kindIs_46 : decode cX12_kindIs 46 = .ok (.lstore_n 1, 1) := by decide +kernel
theorem dX12_kindIs_47 : decode cX12_kindIs 47 = .ok (.aload_n 0, 1) := by decide +kernel
theorem dX12_kindIs_48 : decode cX12_kindIs 48 = .ok (.getfield 36, 3) := by decide +kernel
theorem dX12_kindIs_51 : decode cX12_kindIs 51 = .ok (.ifCond .le 4, 3) := by decide +kernel
theorem dX12_kindIs_54 : decode cX12_kindIs 54 = .ok (.return_, 1) := by decide +kernel
theorem dX12_kindIs_55 : decode cX12_kindIs 55 = .ok (.iconst 4, 1) := by decide +kernel
theorem dX12_kindIs_56 : decode cX12_kindIs 56 = .ok (.aload_n 0, 1) := by decide +kernel
theorem dX12_kindIs_57 : decode cX12_kindIs 57 = .ok (.getfield 124, 3) := by decide +kernel
theorem dX12_kindIs_60 : decode cX12_kindIs 60 = .ok (.imul, 1) := by decide +kernel
theorem dX12_kindIs_61 : decode cX12_kindIs 61 = .ok (.aload_n 0, 1) := by decide +kernel
theorem dX12_kindIs_62 : decode cX12_kindIs 62 = .ok (.getfield 54, 3) := by decide +kernel
theorem dX12_kindIs_65 : decode cX12_kindIs 65 = .ok (.aload_n 0, 1) := by decide +kernel
theorem dX12_kindIs_66 : decode cX12_kindIs 66 = .ok (.getfield 124, 3) := by decide +kernel
theorem dX12_kindIs_69 : decode cX12_kindIs 69 = .ok (.iaload, 1) := by decide +kernel
theorem dX12_kindIs_70 : decode cX12_kindIs 70 = .ok (.iadd, 1) := by decide +kernel
theorem dX12_kindIs_71 : decode cX12_kindIs 71 = .ok (.istore_n 3, 1) := by decide +kernel
theorem dX12_kindIs_72 : decode cX12_kindIs 72 = .ok (.aload_n 0, 1) := by decide +kernel
theorem dX12_kindIs_73 : decode cX12_kindIs 73 = .ok (.getfield 114, 3) := by decide +kernel
theorem dX12_kindIs_76 : decode cX12_kindIs 76 = .ok (.iload_n 3, 1) := by decide +kernel
theorem dX12_kindIs_77 : decode cX12_kindIs 77 = .ok (.lload_n 1, 1) := by decide +kernel
theorem dX12_kindIs_78 : decode cX12_kindIs 78 = .ok (.lastore, 1) := by decide +kernel
theorem dX12_kindIs_79 : decode cX12_kindIs 79 = .ok (.aload_n 0, 1) := by decide +kernel
theorem dX12_kindIs_80 : decode cX12_kindIs 80 = .ok (.getfield 57, 3) := by decide +kernel
theorem dX12_kindIs_83 : decode cX12_kindIs 83 = .ok (.iload_n 3, 1) := by decide +kernel
theorem dX12_kindIs_84 : decode cX12_kindIs 84 = .ok (.iconst 0, 1) := by decide +kernel
theorem dX12_kindIs_85 : decode cX12_kindIs 85 = .ok (.iastore, 1) := by decide +kernel
theorem dX12_kindIs_86 : decode cX12_kindIs 86 = .ok (.aload_n 0, 1) := by decide +kernel
theorem dX12_kindIs_87 : decode cX12_kindIs 87 = .ok (.getfield 60, 3) := by decide +kernel
theorem dX12_kindIs_90 : decode cX12_kindIs 90 = .ok (.iload_n 3, 1) := by decide +kernel
theorem dX12_kindIs_91 : decode cX12_kindIs 91 = .ok (.iconst 0, 1) := by decide +kernel
theorem dX12_kindIs_92 : decode cX12_kindIs 92 = .ok (.iastore, 1) := by decide +kernel
theorem dX12_kindIs_93 : decode cX12_kindIs 93 = .ok (.aload_n 0, 1) := by decide +kernel
theorem dX12_kindIs_94 : decode cX12_kindIs 94 = .ok (.getfield 54, 3) := by decide +kernel
theorem dX12_kindIs_97 : decode cX12_kindIs 97 = .ok (.aload_n 0, 1) := by decide +kernel
theorem dX12_kindIs_98 : decode cX12_kindIs 98 = .ok (.getfield 124, 3) := by decide +kernel
theorem dX12_kindIs_101 : decode cX12_kindIs 101 = .ok (.dup2, 1) := by decide +kernel
theorem dX12_kindIs_102 : decode cX12_kindIs 102 = .ok (.iaload, 1) := by decide +kernel
theorem dX12_kindIs_103 : decode cX12_kindIs 103 = .ok (.iconst 1, 1) := by decide +kernel
theorem dX12_kindIs_104 : decode cX12_kindIs 104 = .ok (.iadd, 1) := by decide +kernel
theorem dX12_kindIs_105 : decode cX12_kindIs 105 = .ok (.iastore, 1) := by decide +kernel
theorem dX12_kindIs_106 : decode cX12_kindIs 106 = .ok (.return_, 1) := by decide +kernel
theorem dX12_known_0 : decode cX12_known 0 = .ok (.aload_n 0, 1) := by decide +kernel
theorem dX12_known_1 : decode cX12_known 1 = .ok (.invokevirtual 331, 3) := by decide +kernel
theorem dX12_known_4 : decode cX12_known 4 = .ok (.aload_n 0, 1) := by decide +kernel
theorem dX12_known_5 : decode cX12_known 5 = .ok (.getfield 36, 3) := by decide +kernel
theorem dX12_known_8 : decode cX12_known 8 = .ok (.ifCond .le 5, 3) := by decide +kernel
theorem dX12_known_11 : decode cX12_known 11 = .ok (.iconst 0, 1) := by decide +kernel
theorem dX12_known_12 : decode cX12_known 12 = .ok (.ireturn, 1) := by decide +kernel
theorem dX12_known_13 : decode cX12_known 13 = .ok (.aload_n 0, 1) := by decide +kernel
theorem dX12_known_14 : decode cX12_known 14 = .ok (.ldc2_w 354, 3) := by decide +kernel
theorem dX12_known_17 : decode cX12_known 17 = .ok (.invokevirtual 386, 3) := by decide +kernel
theorem dX12_known_20 : decode cX12_known 20 = .ok (.istore_n 2, 1) := by decide +kernel
theorem dX12_known_21 : decode cX12_known 21 = .ok (.aload_n 0, 1) := by decide +kernel
theorem dX12_known_22 : decode cX12_known 22 = .ok (.getfield 20, 3) := by decide +kernel
theorem dX12_known_25 : decode cX12_known 25 = .ok (.iconst 1, 1) := by decide +kernel
theorem dX12_known_26 : decode cX12_known 26 = .ok (.if_icmp .ne 18, 3) := by decide +kernel
theorem dX12_known_29 : decode cX12_known 29 = .ok (.aload_n 0, 1) := by decide +kernel
theorem dX12_known_30 : decode cX12_known 30 = .ok (.aload_n 0, 1) := by decide +kernel
theorem dX12_known_31 : decode cX12_known 31 = .ok (.getfield 32, 3) := by decide +kernel
theorem dX12_known_34 : decode cX12_known 34 = .ok (.invokevirtual 366, 3) := by decide +kernel
theorem dX12_known_37 : decode cX12_known 37 = .ok (.ifCond .eq 16, 3) := by decide +kernel
theorem dX12_known_40 : decode cX12_known 40 = .ok (.iload_n 2, 1) := by decide +kernel
theorem dX12_known_41 : decode cX12_known 41 = .ok (.ifCond .ne 12, 3) := by decide +kernel
theorem dX12_known_53 : decode cX12_known 53 = .ok (.aload_n 0, 1) := by decide +kernel
theorem dX12_known_54 : decode cX12_known 54 = .ok (.getfield 36, 3) := by decide +kernel
theorem dX12_known_57 : decode cX12_known 57 = .ok (.ifCond .gt 7, 3) := by decide +kernel
theorem dX12_known_60 : decode cX12_known 60 = .ok (.iload_n 2, 1) := by decide +kernel
theorem dX12_known_61 : decode cX12_known 61 = .ok (.ifCond .eq 7, 3) := by decide +kernel
theorem dX12_known_64 : decode cX12_known 64 = .ok (.iconst 4, 1) := by decide +kernel
theorem dX12_known_65 : decode cX12_known 65 = .ok (.goto 11, 3) := by decide +kernel
theorem dX12_known_68 : decode cX12_known 68 = .ok (.aload_n 0, 1) := by decide +kernel
theorem dX12_known_69 : decode cX12_known 69 = .ok (.aload_n 0, 1) := by decide +kernel
theorem dX12_known_70 : decode cX12_known 70 = .ok (.getfield 32, 3) := by decide +kernel
theorem dX12_known_73 : decode cX12_known 73 = .ok (.invokevirtual 370, 3) := by decide +kernel
theorem dX12_known_76 : decode cX12_known 76 = .ok (.istore_n 3, 1) := by decide +kernel
theorem dX12_known_77 : decode cX12_known 77 = .ok (.aload_n 0, 1) := by decide +kernel
theorem dX12_known_78 : decode cX12_known 78 = .ok (.getfield 36, 3) := by decide +kernel
theorem dX12_known_81 : decode cX12_known 81 = .ok (.ifCond .ne 42, 3) := by decide +kernel
theorem dX12_known_84 : decode cX12_known 84 = .ok (.iload_n 2, 1) := by decide +kernel
theorem dX12_known_85 : decode cX12_known 85 = .ok (.ifCond .ne 38, 3) := by decide +kernel
theorem dX12_known_88 : decode cX12_known 88 = .ok (.iload_n 3, 1) := by decide +kernel
theorem dX12_known_89 : decode cX12_known 89 = .ok (.iconst (-1), 1) := by decide +kernel
theorem dX12_known_90 : decode cX12_known 90 = .ok (.if_icmp .eq 24, 3) := by decide +kernel
theorem dX12_known_93 : decode cX12_known 93 = .ok (.iload_n 3, 1) := by decide +kernel
theorem dX12_known_94 : decode cX12_known 94 = .ok (.iload_n 1, 1) := by decide +kernel
theorem dX12_known_95 : decode cX12_known 95 = .ok (.if_icmp .ge 19, 3) := by decide +kernel
theorem dX12_known_98 : decode cX12_known 98 = .ok (.aload_n 0, 1) := by decide +kernel
theorem dX12_known_99 : decode cX12_known 99 = .ok (.getfield 57, 3) := by decide +kernel
theorem dX12_known_102 : decode cX12_known 102 = .ok (.iconst 4, 1) := by decide +kernel
theorem dX12_known_103 : decode cX12_known 103 = .ok (.aload_n 0, 1) := by decide +kernel
theorem dX12_known_104 : decode cX12_known 104 = .ok (.getfield 124, 3) := by decide +kernel
theorem dX12_known_107 : decode cX12_known 107 = .ok (.imul, 1) := by decide +kernel
theorem dX12_known_108 : decode cX12_known 108 = .ok (.iload_n 3, 1) := by decide +kernel
theorem dX12_known_109 : decode cX12_known 109 = .ok (.iadd, 1) := by decide +kernel
theorem dX12_known_110 : decode cX12_known 110 = .ok (.iaload, 1) := by decide +kernel
theorem dX12_known_111 : decode cX12_known 111 = .ok (.ifCond .ne 12, 3) := by decide +kernel
theorem dX12_known_114 : decode cX12_known 114 = .ok (.aload_n 0, 1) := by decide +kernel
theorem dX12_known_115 : decode cX12_known 115 = .ok (.iconst 3, 1) := by decide +kernel
theorem dX12_known_116 : decode cX12_known 116 = .ok (.aload_n 0, 1) := by decide +kernel
theorem dX12_known_117 : decode cX12_known 117 = .ok (.getfield 23, 3) := by decide +kernel
theorem dX12_known_120 : decode cX12_known 120 = .ok (.invokevirtual 320, 3) := by decide +kernel
theorem dX12_known_123 : decode cX12_known 123 = .ok (.aload_n 0, 1) := by decide +kernel
theorem dX12_known_124 : decode cX12_known 124 = .ok (.getfield 36, 3) := by decide +kernel
theorem dX12_known_127 : decode cX12_known 127 = .ok (.ifCond .le 7, 3) := by decide +kernel
theorem dX12_known_130 : decode cX12_known 130 = .ok (.iconst 4, 1) := by decide +kernel
theorem dX12_known_131 : decode cX12_known 131 = .ok (.goto 4, 3) := by decide +kernel
theorem dX12_known_134 : decode cX12_known 134 = .ok (.iload_n 3, 1) := by decide +kernel
theorem dX12_known_135 : decode cX12_known 135 = .ok (.ireturn, 1) := by decide +kernel
theorem dX12_isKindHere_0 : decode cX12_isKindHere 0 = .ok (.aload_n 0, 1) := by decide +kernel
theorem dX12_isKindHere_1 : decode cX12_isKindHere 1 = .ok (.getfield 20, 3) := by decide +kernel
theorem dX12_isKindHere_4 : decode cX12_isKindHere 4 = .ok (.iconst 1, 1) := by decide +kernel
theorem dX12_isKindHere_5 : decode cX12_isKindHere 5 = .ok (.if_icmp .ne 36, 3) := by decide +kernel
theorem dX12_isKindHere_8 : decode cX12_isKindHere 8 = .ok (.aload_n 0, 1) := by decide +kernel
theorem dX12_isKindHere_9 : decode cX12_isKindHere 9 = .ok (.getfield 48, 3) := by decide +kernel
theorem dX12_isKindHere_12 : decode cX12_isKindHere 12 = .ok (.iconst (-1), 1) := by decide +kernel
theorem dX12_isKindHere_13 : decode cX12_isKindHere 13 = .ok (.if_icmp .ne 28, 3) := by decide +kernel
theorem dX12_isKindHere_16 : decode cX12_isKindHere 16 = .ok (.aload_n 0, 1) := by decide +kernel
theorem dX12_isKindHere_17 : decode cX12_isKindHere 17 = .ok (.ldc2_w 354, 3) := by decide +kernel
theorem dX12_isKindHere_20 : decode cX12_isKindHere 20 = .ok (.invokevirtual 386, 3) := by decide +kernel
theorem dX12_isKindHere_23 : decode cX12_isKindHere 23 = .ok (.ifCond .ne 14, 3) := by decide +kernel
theorem dX12_isKindHere_26 : decode cX12_isKindHere 26 = .ok (.aload_n 0, 1) := by decide +kernel
theorem dX12_isKindHere_27 : decode cX12_isKindHere 27 = .ok (.aload_n 0, 1) := by decide +kernel
theorem dX12_isKindHere_28 : decode cX12_isKindHere 28 = .ok (.getfield 32, 3) := by decide +kernel
theorem dX12_isKindHere_31 : decode cX12_isKindHere 31 = .ok (.invokevirtual 366, 3) := by decide +kernel
theorem dX12_isKindHere_34 : decode cX12_isKindHere 34 = .ok (.ifCond .ne 7, 3) := by decide +kernel
theorem dX12_isKindHere_37 : decode cX12_isKindHere 37 = .ok (.iconst 1, 1) := by decide +kernel
theorem dX12_isKindHere_38 : decode cX12_isKindHere 38 = .ok (.goto 4, 3) := by decide +kernel
theorem dX12_isKindHere_41 : decode cX12_isKindHere 41 = .ok (.iconst 0, 1) := by decide +kernel
theorem dX12_isKindHere_42 : decode cX12_isKindHere 42 = .ok (.ireturn, 1) := by decide +kernel
theorem dX12_conIs_0 : decode cX12_conIs 0 = .ok (.aload_n 0, 1) := by decide +kernel
theorem dX12_conIs_1 : decode cX12_conIs 1 = .ok (.getfield 54, 3) := by decide +kernel
theorem dX12_conIs_4 : decode cX12_conIs 4 = .ok (.aload_n 0, 1) := by decide +kernel
theorem dX12_conIs_5 : decode cX12_conIs 5 = .ok (.getfield 124, 3) := by decide +kernel
theorem dX12_conIs_8 : decode cX12_conIs 8 = .ok (.iaload, 1) := by decide +kernel
theorem dX12_conIs_9 : decode cX12_conIs 9 = .ok (.iconst 1, 1) := by decide +kernel
theorem dX12_conIs_10 : decode cX12_conIs 10 = .ok (.isub, 1) := by decide +kernel
theorem dX12_conIs_11 : decode cX12_conIs 11 = .ok (.istore_n 1, 1) := by decide +kernel
theorem dX12_conIs_12 : decode cX12_conIs 12 = .ok (.aload_n 0, 1) := by decide +kernel
theorem dX12_conIs_13 : decode cX12_conIs 13 = .ok (.getfield 127, 3) := by decide +kernel
theorem dX12_conIs_16 : decode cX12_conIs 16 = .ok (.ifCond .ne 7, 3) := by decide +kernel
theorem dX12_conIs_19 : decode cX12_conIs 19 = .ok (.iload_n 1, 1) := by decide +kernel
theorem dX12_conIs_20 : decode cX12_conIs 20 = .ok (.ifCond .ge 12, 3) := by decide +kernel
theorem dX12_conIs_23 : decode cX12_conIs 23 = .ok (.aload_n 0, 1) := by decide +kernel
theorem dX12_conIs_24 : decode cX12_conIs 24 = .ok (.iconst 1, 1) := by decide +kernel
theorem dX12_conIs_25 : decode cX12_conIs 25 = .ok (.aload_n 0, 1) := by decide +kernel
theorem dX12_conIs_26 : decode cX12_conIs 26 = .ok (.getfield 23, 3) := by decide +kernel
theorem dX12_conIs_29 : decode cX12_conIs 29 = .ok (.invokevirtual 320, 3) := by decide +kernel
theorem dX12_conIs_32 : decode cX12_conIs 32 = .ok (.aload_n 0, 1) := by decide +kernel
theorem dX12_conIs_33 : decode cX12_conIs 33 = .ok (.iload_n 1, 1) := by decide +kernel
theorem dX12_conIs_34 : decode cX12_conIs 34 = .ok (.ifCond .lt 25, 3) := by decide +kernel
theorem dX12_conIs_37 : decode cX12_conIs 37 = .ok (.aload_n 0, 1) := by decide +kernel
theorem dX12_conIs_38 : decode cX12_conIs 38 = .ok (.getfield 60, 3) := by decide +kernel
theorem dX12_conIs_41 : decode cX12_conIs 41 = .ok (.iconst 4, 1) := by decide +kernel
theorem dX12_conIs_42 : decode cX12_conIs 42 = .ok (.aload_n 0, 1) := by decide +kernel
theorem dX12_conIs_43 : decode cX12_conIs 43 = .ok (.getfield 124, 3) := by decide +kernel
theorem dX12_conIs_46 : decode cX12_conIs 46 = .ok (.imul, 1) := by decide +kernel
theorem dX12_conIs_47 : decode cX12_conIs 47 = .ok (.iload_n 1, 1) := by decide +kernel
theorem dX12_conIs_48 : decode cX12_conIs 48 = .ok (.iadd, 1) := by decide +kernel
theorem dX12_conIs_49 : decode cX12_conIs 49 = .ok (.iaload, 1) := by decide +kernel
theorem dX12_conIs_50 : decode cX12_conIs 50 = .ok (.bipush 6, 2) := by decide +kernel
theorem dX12_conIs_52 : decode cX12_conIs 52 = .ok (.if_icmp .ne 7, 3) := by decide +kernel
theorem dX12_conIs_55 : decode cX12_conIs 55 = .ok (.iconst 1, 1) := by decide +kernel
theorem dX12_conIs_56 : decode cX12_conIs 56 = .ok (.goto 4, 3) := by decide +kernel
theorem dX12_conIs_59 : decode cX12_conIs 59 = .ok (.iconst 0, 1) := by decide +kernel
theorem dX12_conIs_60 : decode cX12_conIs 60 = .ok (.invokevirtual 378, 3) := by decide +kernel
theorem dX12_conIs_63 : decode cX12_conIs 63 = .ok (.ifCond .ne 4, 3) := by decide +kernel
theorem dX12_conIs_66 : decode cX12_conIs 66 = .ok (.return_, 1) := by decide +kernel
theorem dX12_conIs_67 : decode cX12_conIs 67 = .ok (.aload_n 0, 1) := by decide +kernel
theorem dX12_conIs_68 : decode cX12_conIs 68 = .ok (.invokevirtual 382, 3) := by decide +kernel
theorem dX12_conIs_71 : decode cX12_conIs 71 = .ok (.lstore_n 2, 1) := by decide +kernel
theorem dX12_conIs_72 : decode cX12_conIs 72 = .ok (.aload_n 0, 1) := by decide +kernel
theorem dX12_conIs_73 : decode cX12_conIs 73 = .ok (.getfield 36, 3) := by decide +kernel
theorem dX12_conIs_76 : decode cX12_conIs 76 = .ok (.ifCond .le 4, 3) := by decide +kernel
theorem dX12_conIs_79 : decode cX12_conIs 79 = .ok (.return_, 1) := by decide +kernel
theorem dX12_conIs_80 : decode cX12_conIs 80 = .ok (.bipush 24, 2) := by decide +kernel
theorem dX12_conIs_82 : decode cX12_conIs 82 = .ok (.aload_n 0, 1) := by decide +kernel
theorem dX12_conIs_83 : decode cX12_conIs 83 = .ok (.getfield 124, 3) := by decide +kernel
theorem dX12_conIs_86 : decode cX12_conIs 86 = .ok (.imul, 1) := by decide +kernel
theorem dX12_conIs_87 : decode cX12_conIs 87 = .ok (.aload_n 0, 1) := by decide +kernel
theorem dX12_conIs_88 : decode cX12_conIs 88 = .ok (.getfield 63, 3) := by decide +kernel
theorem dX12_conIs_91 : decode cX12_conIs 91 = .ok (.aload_n 0, 1) := by decide +kernel
theorem dX12_conIs_92 : decode cX12_conIs 92 = .ok (.getfield 124, 3) := by decide +kernel
theorem dX12_conIs_95 : decode cX12_conIs 95 = .ok (.iaload, 1) := by decide +kernel
theorem dX12_conIs_96 : decode cX12_conIs 96 = .ok (.iadd, 1) := by decide +kernel
theorem dX12_conIs_97 : decode cX12_conIs 97 = .ok (.istore 4, 2) := by decide +kernel
theorem dX12_conIs_99 : decode cX12_conIs 99 = .ok (.aload_n 0, 1) := by decide +kernel
theorem dX12_conIs_100 : decode cX12_conIs 100 = .ok (.getfield 57, 3) := by decide +kernel
theorem dX12_conIs_103 : decode cX12_conIs 103 = .ok (.iconst 4, 1) := by decide +kernel
theorem dX12_conIs_104 : decode cX12_conIs 104 = .ok (.aload_n 0, 1) := by decide +kernel
theorem dX12_conIs_105 : decode cX12_conIs 105 = .ok (.getfield 124, 3) := by decide +kernel
theorem dX12_conIs_108 : decode cX12_conIs 108 = .ok (.imul, 1) := by decide +kernel
theorem dX12_conIs_109 : decode cX12_conIs 109 = .ok (.iload_n 1, 1) := by decide +kernel
theorem dX12_conIs_110 : decode cX12_conIs 110 = .ok (.iadd, 1) := by decide +kernel
theorem dX12_conIs_111 : decode cX12_conIs 111 = .ok (.iaload, 1) := by decide +kernel
theorem dX12_conIs_112 : decode cX12_conIs 112 = .ok (.istore 5, 2) := by decide +kernel
theorem dX12_conIs_114 : decode cX12_conIs 114 = .ok (.aload_n 0, 1) := by decide +kernel
theorem dX12_conIs_115 : decode cX12_conIs 115 = .ok (.getfield 118, 3) := by decide +kernel
theorem dX12_conIs_118 : decode cX12_conIs 118 = .ok (.iload 4, 2) := by decide +kernel
theorem dX12_conIs_120 : decode cX12_conIs 120 = .ok (.lload_n 2, 1) := by decide +kernel
theorem dX12_conIs_121 : decode cX12_conIs 121 = .ok (.lastore, 1) := by decide +kernel
theorem dX12_conIs_122 : decode cX12_conIs 122 = .ok (.aload_n 0, 1) := by decide +kernel
theorem dX12_conIs_123 : decode cX12_conIs 123 = .ok (.getfield 66, 3) := by decide +kernel
theorem dX12_conIs_126 : decode cX12_conIs 126 = .ok (.iload 4, 2) := by decide +kernel
theorem dX12_conIs_128 : decode cX12_conIs 128 = .ok (.iload_n 1, 1) := by decide +kernel
theorem dX12_conIs_129 : decode cX12_conIs 129 = .ok (.iastore, 1) := by decide +kernel
theorem dX12_conIs_130 : decode cX12_conIs 130 = .ok (.aload_n 0, 1) := by decide +kernel
theorem dX12_conIs_131 : decode cX12_conIs 131 = .ok (.getfield 69, 3) := by decide +kernel
theorem dX12_conIs_134 : decode cX12_conIs 134 = .ok (.iload 4, 2) := by decide +kernel
theorem dX12_conIs_136 : decode cX12_conIs 136 = .ok (.iconst 0, 1) := by decide +kernel
theorem dX12_conIs_137 : decode cX12_conIs 137 = .ok (.iastore, 1) := by decide +kernel
theorem dX12_conIs_138 : decode cX12_conIs 138 = .ok (.aload_n 0, 1) := by decide +kernel
theorem dX12_conIs_139 : decode cX12_conIs 139 = .ok (.getfield 75, 3) := by decide +kernel
theorem dX12_conIs_142 : decode cX12_conIs 142 = .ok (.iload 4, 2) := by decide +kernel
theorem dX12_conIs_144 : decode cX12_conIs 144 = .ok (.iload 5, 2) := by decide +kernel
theorem dX12_conIs_146 : decode cX12_conIs 146 = .ok (.iastore, 1) := by decide +kernel
theorem dX12_conIs_147 : decode cX12_conIs 147 = .ok (.aload_n 0, 1) := by decide +kernel
theorem dX12_conIs_148 : decode cX12_conIs 148 = .ok (.getfield 78, 3) := by decide +kernel
theorem dX12_conIs_151 : decode cX12_conIs 151 = .ok (.iload 4, 2) := by decide +kernel
theorem dX12_conIs_153 : decode cX12_conIs 153 = .ok (.iconst 1, 1) := by decide +kernel
theorem dX12_conIs_154 : decode cX12_conIs 154 = .ok (.iastore, 1) := by decide +kernel
theorem dX12_conIs_155 : decode cX12_conIs 155 = .ok (.aload_n 0, 1) := by decide +kernel
theorem dX12_conIs_156 : decode cX12_conIs 156 = .ok (.invokevirtual 331, 3) := by decide +kernel
theorem dX12_conIs_159 : decode cX12_conIs 159 = .ok (.aload_n 0, 1) := by decide +kernel
theorem dX12_conIs_160 : decode cX12_conIs 160 = .ok (.getfield 36, 3) := by decide +kernel
theorem dX12_conIs_163 : decode cX12_conIs 163 = .ok (.ifCond .ne 140, 3) := by decide +kernel
theorem dX12_conIs_166 : decode cX12_conIs 166 = .ok (.aload_n 0, 1) := by decide +kernel
theorem dX12_conIs_167 : decode cX12_conIs 167 = .ok (.invokevirtual 389, 3) := by decide +kernel
theorem dX12_conIs_170 : decode cX12_conIs 170 = .ok (.ifCond .eq 133, 3) := by decide +kernel
theorem dX12_conIs_173 : decode cX12_conIs 173 = .ok (.aload_n 0, 1) := by decide +kernel
theorem dX12_conIs_174 : decode cX12_conIs 174 = .ok (.getfield 69, 3) := by decide +kernel
theorem dX12_conIs_177 : decode cX12_conIs 177 = .ok (.iload 4, 2) := by decide +kernel
theorem dX12_conIs_179 : decode cX12_conIs 179 = .ok (.iaload, 1) := by decide +kernel
theorem dX12_conIs_180 : decode cX12_conIs 180 = .ok (.iconst 2, 1) := by decide +kernel
theorem dX12_conIs_181 : decode cX12_conIs 181 = .ok (.if_icmp .ne 13, 3) := by decide +kernel
theorem dX12_conIs_184 : decode cX12_conIs 184 = .ok (.aload_n 0, 1) := by decide +kernel
theorem dX12_conIs_185 : decode cX12_conIs 185 = .ok (.bipush 6, 2) := by decide +kernel
theorem dX12_conIs_187 : decode cX12_conIs 187 = .ok (.aload_n 0, 1) := by decide +kernel
theorem dX12_conIs_188 : decode cX12_conIs 188 = .ok (.getfield 23, 3) := by decide +kernel
theorem dX12_conIs_191 : decode cX12_conIs 191 = .ok (.invokevirtual 320, 3) := by decide +kernel
theorem dX12_conIs_194 : decode cX12_conIs 194 = .ok (.aload_n 0, 1) := by decide +kernel
theorem dX12_conIs_195 : decode cX12_conIs 195 = .ok (.iload_n 1, 1) := by decide +kernel
theorem dX12_conIs_196 : decode cX12_conIs 196 = .ok (.invokevirtual 393, 3) := by decide +kernel
theorem dX12_conIs_199 : decode cX12_conIs 199 = .ok (.istore 6, 2) := by decide +kernel
theorem dX12_conIs_201 : decode cX12_conIs 201 = .ok (.aload_n 0, 1) := by decide +kernel
theorem dX12_conIs_202 : decode cX12_conIs 202 = .ok (.getfield 36, 3) := by decide +kernel
theorem dX12_conIs_205 : decode cX12_conIs 205 = .ok (.ifCond .le 4, 3) := by decide +kernel
theorem dX12_conIs_208 : decode cX12_conIs 208 = .ok (.return_, 1) := by decide +kernel
theorem dX12_conIs_209 : decode cX12_conIs 209 = .ok (.aload_n 0, 1) := by decide +kernel
theorem dX12_conIs_210 : decode cX12_conIs 210 = .ok (.getfield 72, 3) := by decide +kernel
theorem dX12_conIs_213 : decode cX12_conIs 213 = .ok (.iconst 2, 1) := by decide +kernel
theorem dX12_conIs_214 : decode cX12_conIs 214 = .ok (.iload 4, 2) := by decide +kernel
theorem dX12_conIs_216 : decode cX12_conIs 216 = .ok (.imul, 1) := by decide +kernel
theorem dX12_conIs_217 : decode cX12_conIs 217 = .ok (.aload_n 0, 1) := by decide +kernel
theorem dX12_conIs_218 : decode cX12_conIs 218 = .ok (.getfield 69, 3) := by decide +kernel
theorem dX12_conIs_221 : decode cX12_conIs 221 = .ok (.iload 4, 2) := by decide +kernel
theorem dX12_conIs_223 : decode cX12_conIs 223 = .ok (.iaload, 1) := by decide +kernel
theorem dX12_conIs_224 : decode cX12_conIs 224 = .ok (.iadd, 1) := by decide +kernel
theorem dX12_conIs_225 : decode cX12_conIs 225 = .ok (.iload 6, 2) := by decide +kernel
theorem dX12_conIs_227 : decode cX12_conIs 227 = .ok (.iastore, 1) := by decide +kernel
theorem dX12_conIs_228 : decode cX12_conIs 228 = .ok (.aload_n 0, 1) := by decide +kernel
theorem dX12_conIs_229 : decode cX12_conIs 229 = .ok (.getfield 69, 3) := by decide +kernel
theorem dX12_conIs_232 : decode cX12_conIs 232 = .ok (.iload 4, 2) := by decide +kernel
theorem dX12_conIs_234 : decode cX12_conIs 234 = .ok (.dup2, 1) := by decide +kernel
theorem dX12_conIs_235 : decode cX12_conIs 235 = .ok (.iaload, 1) := by decide +kernel
theorem dX12_conIs_236 : decode cX12_conIs 236 = .ok (.iconst 1, 1) := by decide +kernel
theorem dX12_conIs_237 : decode cX12_conIs 237 = .ok (.iadd, 1) := by decide +kernel
theorem dX12_conIs_238 : decode cX12_conIs 238 = .ok (.iastore, 1) := by decide +kernel
theorem dX12_conIs_239 : decode cX12_conIs 239 = .ok (.aload_n 0, 1) := by decide +kernel
theorem dX12_conIs_240 : decode cX12_conIs 240 = .ok (.getfield 78, 3) := by decide +kernel
theorem dX12_conIs_243 : decode cX12_conIs 243 = .ok (.iload 4, 2) := by decide +kernel
theorem dX12_conIs_245 : decode cX12_conIs 245 = .ok (.dup2, 1) := by decide +kernel
theorem dX12_conIs_246 : decode cX12_conIs 246 = .ok (.iaload, 1) := by decide +kernel
theorem dX12_conIs_247 : decode cX12_conIs 247 = .ok (.aload_n 0, 1) := by decide +kernel
theorem dX12_conIs_248 : decode cX12_conIs 248 = .ok (.aload_n 0, 1) := by decide +kernel
theorem dX12_conIs_249 : decode cX12_conIs 249 = .ok (.getfield 124, 3) := by decide +kernel
theorem dX12_conIs_252 : decode cX12_conIs 252 = .ok (.iload 6, 2) := by decide +kernel
theorem dX12_conIs_254 : decode cX12_conIs 254 = .ok (.invokevirtual 396, 3) := by decide +kernel
theorem dX12_conIs_257 : decode cX12_conIs 257 = .ok (.imul, 1) := by decide +kernel
theorem dX12_conIs_258 : decode cX12_conIs 258 = .ok (.iastore, 1) := by decide +kernel
theorem dX12_conIs_259 : decode cX12_conIs 259 = .ok (.iload 5, 2) := by decide +kernel
theorem dX12_conIs_261 : decode cX12_conIs 261 = .ok (.aload_n 0, 1) := by decide +kernel
theorem dX12_conIs_262 : decode cX12_conIs 262 = .ok (.getfield 78, 3) := by decide +kernel
theorem dX12_conIs_265 : decode cX12_conIs 265 = .ok (.iload 4, 2) := by decide +kernel
theorem dX12_conIs_267 : decode cX12_conIs 267 = .ok (.iaload, 1) := by decide +kernel
theorem dX12_conIs_268 : decode cX12_conIs 268 = .ok (.iadd, 1) := by decide +kernel
theorem dX12_conIs_269 : decode cX12_conIs 269 = .ok (.sipush 2000, 3) := by decide +kernel
theorem dX12_conIs_272 : decode cX12_conIs 272 = .ok (.if_icmp .le 12, 3) := by decide +kernel
theorem dX12_conIs_275 : decode cX12_conIs 275 = .ok (.aload_n 0, 1) := by decide +kernel
theorem dX12_conIs_276 : decode cX12_conIs 276 = .ok (.iconst 4, 1) := by decide +kernel
theorem dX12_conIs_277 : decode cX12_conIs 277 = .ok (.aload_n 0, 1) := by decide +kernel
theorem dX12_conIs_278 : decode cX12_conIs 278 = .ok (.getfield 23, 3) := by decide +kernel
theorem dX12_conIs_281 : decode cX12_conIs 281 = .ok (.invokevirtual 320, 3) := by decide +kernel
theorem dX12_conIs_284 : decode cX12_conIs 284 = .ok (.aload_n 0, 1) := by decide +kernel
theorem dX12_conIs_285 : decode cX12_conIs 285 = .ok (.getfield 36, 3) := by decide +kernel
theorem dX12_conIs_288 : decode cX12_conIs 288 = .ok (.ifCond .le 4, 3) := by decide +kernel
theorem dX12_conIs_291 : decode cX12_conIs 291 = .ok (.return_, 1) := by decide +kernel
theorem dX12_conIs_292 : decode cX12_conIs 292 = .ok (.aload_n 0, 1) := by decide +kernel
theorem dX12_conIs_293 : decode cX12_conIs 293 = .ok (.invokevirtual 337, 3) := by decide +kernel
theorem dX12_conIs_296 : decode cX12_conIs 296 = .ok (.aload_n 0, 1) := by decide +kernel
theorem dX12_conIs_297 : decode cX12_conIs 297 = .ok (.invokevirtual 331, 3) := by decide +kernel
theorem dX12_conIs_300 : decode cX12_conIs 300 = .ok (.goto (-141), 3) := by decide +kernel
theorem dX12_conIs_303 : decode cX12_conIs 303 = .ok (.aload_n 0, 1) := by decide +kernel
theorem dX12_conIs_304 : decode cX12_conIs 304 = .ok (.getfield 36, 3) := by decide +kernel
theorem dX12_conIs_307 : decode cX12_conIs 307 = .ok (.ifCond .le 4, 3) := by decide +kernel
theorem dX12_conIs_310 : decode cX12_conIs 310 = .ok (.return_, 1) := by decide +kernel
theorem dX12_conIs_311 : decode cX12_conIs 311 = .ok (.aload_n 0, 1) := by decide +kernel
theorem dX12_conIs_312 : decode cX12_conIs 312 = .ok (.getfield 57, 3) := by decide +kernel
theorem dX12_conIs_315 : decode cX12_conIs 315 = .ok (.iconst 4, 1) := by decide +kernel
theorem dX12_conIs_316 : decode cX12_conIs 316 = .ok (.aload_n 0, 1) := by decide +kernel
theorem dX12_conIs_317 : decode cX12_conIs 317 = .ok (.getfield 124, 3) := by decide +kernel
theorem dX12_conIs_320 : decode cX12_conIs 320 = .ok (.imul, 1) := by decide +kernel
theorem dX12_conIs_321 : decode cX12_conIs 321 = .ok (.iload_n 1, 1) := by decide +kernel
theorem dX12_conIs_322 : decode cX12_conIs 322 = .ok (.iadd, 1) := by decide +kernel
theorem dX12_conIs_323 : decode cX12_conIs 323 = .ok (.dup2, 1) := by decide +kernel
theorem dX12_conIs_324 : decode cX12_conIs 324 = .ok (.iaload, 1) := by decide +kernel
theorem dX12_conIs_325 : decode cX12_conIs 325 = .ok (.aload_n 0, 1) := by decide +kernel
theorem dX12_conIs_326 : decode cX12_conIs 326 = .ok (.getfield 78, 3) := by decide +kernel
theorem dX12_conIs_329 : decode cX12_conIs 329 = .ok (.iload 4, 2) := by decide +kernel
theorem dX12_conIs_331 : decode cX12_conIs 331 = .ok (.iaload, 1) := by decide +kernel
theorem dX12_conIs_332 : decode cX12_conIs 332 = .ok (.iadd, 1) := by decide +kernel
theorem dX12_conIs_333 : decode cX12_conIs 333 = .ok (.iastore, 1) := by decide +kernel
theorem dX12_conIs_334 : decode cX12_conIs 334 = .ok (.aload_n 0, 1) := by decide +kernel
theorem dX12_conIs_335 : decode cX12_conIs 335 = .ok (.getfield 60, 3) := by decide +kernel
theorem dX12_conIs_338 : decode cX12_conIs 338 = .ok (.iconst 4, 1) := by decide +kernel
theorem dX12_conIs_339 : decode cX12_conIs 339 = .ok (.aload_n 0, 1) := by decide +kernel
theorem dX12_conIs_340 : decode cX12_conIs 340 = .ok (.getfield 124, 3) := by decide +kernel
theorem dX12_conIs_343 : decode cX12_conIs 343 = .ok (.imul, 1) := by decide +kernel
theorem dX12_conIs_344 : decode cX12_conIs 344 = .ok (.iload_n 1, 1) := by decide +kernel
theorem dX12_conIs_345 : decode cX12_conIs 345 = .ok (.iadd, 1) := by decide +kernel
theorem dX12_conIs_346 : decode cX12_conIs 346 = .ok (.dup2, 1) := by decide +kernel
theorem dX12_conIs_347 : decode cX12_conIs 347 = .ok (.iaload, 1) := by decide +kernel
theorem dX12_conIs_348 : decode cX12_conIs 348 = .ok (.iconst 1, 1) := by decide +kernel
theorem dX12_conIs_349 : decode cX12_conIs 349 = .ok (.iadd, 1) := by decide +kernel
theorem dX12_conIs_350 : decode cX12_conIs 350 = .ok (.iastore, 1) := by decide +kernel
theorem dX12_conIs_351 : decode cX12_conIs 351 = .ok (.aload_n 0, 1) := by decide +kernel
theorem dX12_conIs_352 : decode cX12_conIs 352 = .ok (.getfield 63, 3) := by decide +kernel
theorem dX12_conIs_355 : decode cX12_conIs 355 = .ok (.aload_n 0, 1) := by decide +kernel
theorem dX12_conIs_356 : decode cX12_conIs 356 = .ok (.getfield 124, 3) := by decide +kernel
theorem dX12_conIs_359 : decode cX12_conIs 359 = .ok (.dup2, 1) := by decide +kernel
theorem dX12_conIs_360 : decode cX12_conIs 360 = .ok (.iaload, 1) := by decide +kernel
theorem dX12_conIs_361 : decode cX12_conIs 361 = .ok (.iconst 1, 1) := by decide +kernel
theorem dX12_conIs_362 : decode cX12_conIs 362 = .ok (.iadd, 1) := by decide +kernel
theorem dX12_conIs_363 : decode cX12_conIs 363 = .ok (.iastore, 1) := by decide +kernel
theorem dX12_conIs_364 : decode cX12_conIs 364 = .ok (.return_, 1) := by decide +kernel
theorem dX12_matchIs_0 : decode cX12_matchIs 0 = .ok (.aload_n 0, 1) := by decide +kernel
theorem dX12_matchIs_1 : decode cX12_matchIs 1 = .ok (.aload_n 0, 1) := by decide +kernel
theorem dX12_matchIs_2 : decode cX12_matchIs 2 = .ok (.getfield 127, 3) := by decide +kernel
theorem dX12_matchIs_5 : decode cX12_matchIs 5 = .ok (.invokevirtual 378, 3) := by decide +kernel
theorem dX12_matchIs_8 : decode cX12_matchIs 8 = .ok (.ifCond .ne 4, 3) := by decide +kernel
theorem dX12_matchIs_11 : decode cX12_matchIs 11 = .ok (.return_, 1) := by decide +kernel
theorem dX12_matchIs_12 : decode cX12_matchIs 12 = .ok (.aload_n 0, 1) := by decide +kernel
theorem dX12_matchIs_13 : decode cX12_matchIs 13 = .ok (.iconst 1, 1) := by decide +kernel
theorem dX12_matchIs_14 : decode cX12_matchIs 14 = .ok (.putfield 127, 3) := by decide +kernel
theorem dX12_matchIs_17 : decode cX12_matchIs 17 = .ok (.iconst 1, 1) := by decide +kernel
end
section
theorem dX12_matchIs_18 : decode cX12_matchIs 18 = .ok (.istore_n 1, 1) := by decide +kernel
theorem dX12_matchIs_19 : decode cX12_matchIs 19 = .ok (.aload_n 0, 1) := by decide +kernel
theorem dX12_matchIs_20 : decode cX12_matchIs 20 = .ok (.invokevirtual 331, 3) := by decide +kernel
theorem dX12_matchIs_23 : decode cX12_matchIs 23 = .ok (.aload_n 0, 1) := by decide +kernel
theorem dX12_matchIs_24 : decode cX12_matchIs 24 = .ok (.getfield 36, 3) := by decide +kernel
theorem dX12_matchIs_27 : decode cX12_matchIs 27 = .ok (.ifCond .ne 19, 3) := by decide +kernel
theorem dX12_matchIs_30 : decode cX12_matchIs 30 = .ok (.aload_n 0, 1) := by decide +kernel
theorem dX12_matchIs_31 : decode cX12_matchIs 31 = .ok (.invokevirtual 389, 3) := by decide +kernel
theorem dX12_matchIs_34 : decode cX12_matchIs 34 = .ok (.ifCond .ne 12, 3) := by decide +kernel
theorem dX12_matchIs_37 : decode cX12_matchIs 37 = .ok (.aload_n 0, 1) := by decide +kernel
theorem dX12_matchIs_38 : decode cX12_matchIs 38 = .ok (.iconst 1, 1) := by decide +kernel
theorem dX12_matchIs_39 : decode cX12_matchIs 39 = .ok (.aload_n 0, 1) := by decide +kernel
theorem dX12_matchIs_40 : decode cX12_matchIs 40 = .ok (.getfield 23, 3) := by decide +kernel
theorem dX12_matchIs_43 : decode cX12_matchIs 43 = .ok (.invokevirtual 320, 3) := by decide +kernel
theorem dX12_matchIs_46 : decode cX12_matchIs 46 = .ok (.aload_n 0, 1) := by decide +kernel
theorem dX12_matchIs_47 : decode cX12_matchIs 47 = .ok (.getfield 36, 3) := by decide +kernel
theorem dX12_matchIs_50 : decode cX12_matchIs 50 = .ok (.ifCond .ne 129, 3) := by decide +kernel
theorem dX12_matchIs_53 : decode cX12_matchIs 53 = .ok (.aload_n 0, 1) := by decide +kernel
theorem dX12_matchIs_54 : decode cX12_matchIs 54 = .ok (.invokevirtual 389, 3) := by decide +kernel
theorem dX12_matchIs_57 : decode cX12_matchIs 57 = .ok (.ifCond .eq 122, 3) := by decide +kernel
theorem dX12_matchIs_60 : decode cX12_matchIs 60 = .ok (.aload_n 0, 1) := by decide +kernel
theorem dX12_matchIs_61 : decode cX12_matchIs 61 = .ok (.getfield 81, 3) := by decide +kernel
theorem dX12_matchIs_64 : decode cX12_matchIs 64 = .ok (.aload_n 0, 1) := by decide +kernel
theorem dX12_matchIs_65 : decode cX12_matchIs 65 = .ok (.getfield 124, 3) := by decide +kernel
theorem dX12_matchIs_68 : decode cX12_matchIs 68 = .ok (.iaload, 1) := by decide +kernel
theorem dX12_matchIs_69 : decode cX12_matchIs 69 = .ok (.iconst 4, 1) := by decide +kernel
theorem dX12_matchIs_70 : decode cX12_matchIs 70 = .ok (.if_icmp .ne 13, 3) := by decide +kernel
theorem dX12_matchIs_73 : decode cX12_matchIs 73 = .ok (.aload_n 0, 1) := by decide +kernel
theorem dX12_matchIs_74 : decode cX12_matchIs 74 = .ok (.bipush 6, 2) := by decide +kernel
theorem dX12_matchIs_76 : decode cX12_matchIs 76 = .ok (.aload_n 0, 1) := by decide +kernel
theorem dX12_matchIs_77 : decode cX12_matchIs 77 = .ok (.getfield 23, 3) := by decide +kernel
theorem dX12_matchIs_80 : decode cX12_matchIs 80 = .ok (.invokevirtual 320, 3) := by decide +kernel
theorem dX12_matchIs_83 : decode cX12_matchIs 83 = .ok (.aload_n 0, 1) := by decide +kernel
theorem dX12_matchIs_84 : decode cX12_matchIs 84 = .ok (.iconst 4, 1) := by decide +kernel
theorem dX12_matchIs_85 : decode cX12_matchIs 85 = .ok (.invokevirtual 393, 3) := by decide +kernel
theorem dX12_matchIs_88 : decode cX12_matchIs 88 = .ok (.istore_n 2, 1) := by decide +kernel
theorem dX12_matchIs_89 : decode cX12_matchIs 89 = .ok (.aload_n 0, 1) := by decide +kernel
theorem dX12_matchIs_90 : decode cX12_matchIs 90 = .ok (.getfield 36, 3) := by decide +kernel
theorem dX12_matchIs_93 : decode cX12_matchIs 93 = .ok (.ifCond .le 4, 3) := by decide +kernel
theorem dX12_matchIs_96 : decode cX12_matchIs 96 = .ok (.return_, 1) := by decide +kernel
theorem dX12_matchIs_97 : decode cX12_matchIs 97 = .ok (.aload_n 0, 1) := by decide +kernel
theorem dX12_matchIs_98 : decode cX12_matchIs 98 = .ok (.getfield 84, 3) := by decide +kernel
theorem dX12_matchIs_101 : decode cX12_matchIs 101 = .ok (.iconst 4, 1) := by decide +kernel
theorem dX12_matchIs_102 : decode cX12_matchIs 102 = .ok (.aload_n 0, 1) := by decide +kernel
theorem dX12_matchIs_103 : decode cX12_matchIs 103 = .ok (.getfield 124, 3) := by decide +kernel
theorem dX12_matchIs_106 : decode cX12_matchIs 106 = .ok (.imul, 1) := by decide +kernel
theorem dX12_matchIs_107 : decode cX12_matchIs 107 = .ok (.aload_n 0, 1) := by decide +kernel
theorem dX12_matchIs_108 : decode cX12_matchIs 108 = .ok (.getfield 81, 3) := by decide +kernel
theorem dX12_matchIs_111 : decode cX12_matchIs 111 = .ok (.aload_n 0, 1) := by decide +kernel
theorem dX12_matchIs_112 : decode cX12_matchIs 112 = .ok (.getfield 124, 3) := by decide +kernel
theorem dX12_matchIs_115 : decode cX12_matchIs 115 = .ok (.iaload, 1) := by decide +kernel
theorem dX12_matchIs_116 : decode cX12_matchIs 116 = .ok (.iadd, 1) := by decide +kernel
theorem dX12_matchIs_117 : decode cX12_matchIs 117 = .ok (.iload_n 2, 1) := by decide +kernel
theorem dX12_matchIs_118 : decode cX12_matchIs 118 = .ok (.iastore, 1) := by decide +kernel
theorem dX12_matchIs_119 : decode cX12_matchIs 119 = .ok (.aload_n 0, 1) := by decide +kernel
theorem dX12_matchIs_120 : decode cX12_matchIs 120 = .ok (.getfield 81, 3) := by decide +kernel
theorem dX12_matchIs_123 : decode cX12_matchIs 123 = .ok (.aload_n 0, 1) := by decide +kernel
theorem dX12_matchIs_124 : decode cX12_matchIs 124 = .ok (.getfield 124, 3) := by decide +kernel
theorem dX12_matchIs_127 : decode cX12_matchIs 127 = .ok (.dup2, 1) := by decide +kernel
theorem dX12_matchIs_128 : decode cX12_matchIs 128 = .ok (.iaload, 1) := by decide +kernel
theorem dX12_matchIs_129 : decode cX12_matchIs 129 = .ok (.iconst 1, 1) := by decide +kernel
theorem dX12_matchIs_130 : decode cX12_matchIs 130 = .ok (.iadd, 1) := by decide +kernel
theorem dX12_matchIs_131 : decode cX12_matchIs 131 = .ok (.iastore, 1) := by decide +kernel
theorem dX12_matchIs_132 : decode cX12_matchIs 132 = .ok (.iload_n 1, 1) := by decide +kernel
theorem dX12_matchIs_133 : decode cX12_matchIs 133 = .ok (.aload_n 0, 1) := by decide +kernel
theorem dX12_matchIs_134 : decode cX12_matchIs 134 = .ok (.aload_n 0, 1) := by decide +kernel
theorem dX12_matchIs_135 : decode cX12_matchIs 135 = .ok (.getfield 124, 3) := by decide +kernel
theorem dX12_matchIs_138 : decode cX12_matchIs 138 = .ok (.iload_n 2, 1) := by decide +kernel
theorem dX12_matchIs_139 : decode cX12_matchIs 139 = .ok (.invokevirtual 396, 3) := by decide +kernel
theorem dX12_matchIs_142 : decode cX12_matchIs 142 = .ok (.imul, 1) := by decide +kernel
theorem dX12_matchIs_143 : decode cX12_matchIs 143 = .ok (.istore_n 1, 1) := by decide +kernel
theorem dX12_matchIs_144 : decode cX12_matchIs 144 = .ok (.iload_n 1, 1) := by decide +kernel
theorem dX12_matchIs_145 : decode cX12_matchIs 145 = .ok (.sipush 20000, 3) := by decide +kernel
theorem dX12_matchIs_148 : decode cX12_matchIs 148 = .ok (.if_icmp .le 12, 3) := by decide +kernel
theorem dX12_matchIs_151 : decode cX12_matchIs 151 = .ok (.aload_n 0, 1) := by decide +kernel
theorem dX12_matchIs_152 : decode cX12_matchIs 152 = .ok (.iconst 4, 1) := by decide +kernel
theorem dX12_matchIs_153 : decode cX12_matchIs 153 = .ok (.aload_n 0, 1) := by decide +kernel
theorem dX12_matchIs_154 : decode cX12_matchIs 154 = .ok (.getfield 23, 3) := by decide +kernel
theorem dX12_matchIs_157 : decode cX12_matchIs 157 = .ok (.invokevirtual 320, 3) := by decide +kernel
theorem dX12_matchIs_160 : decode cX12_matchIs 160 = .ok (.aload_n 0, 1) := by decide +kernel
theorem dX12_matchIs_161 : decode cX12_matchIs 161 = .ok (.getfield 36, 3) := by decide +kernel
theorem dX12_matchIs_164 : decode cX12_matchIs 164 = .ok (.ifCond .le 4, 3) := by decide +kernel
theorem dX12_matchIs_167 : decode cX12_matchIs 167 = .ok (.return_, 1) := by decide +kernel
theorem dX12_matchIs_168 : decode cX12_matchIs 168 = .ok (.aload_n 0, 1) := by decide +kernel
theorem dX12_matchIs_169 : decode cX12_matchIs 169 = .ok (.invokevirtual 337, 3) := by decide +kernel
theorem dX12_matchIs_172 : decode cX12_matchIs 172 = .ok (.aload_n 0, 1) := by decide +kernel
theorem dX12_matchIs_173 : decode cX12_matchIs 173 = .ok (.invokevirtual 331, 3) := by decide +kernel
theorem dX12_matchIs_176 : decode cX12_matchIs 176 = .ok (.goto (-130), 3) := by decide +kernel
theorem dX12_matchIs_179 : decode cX12_matchIs 179 = .ok (.return_, 1) := by decide +kernel
theorem dX12_emits_0 : decode cX12_emits 0 = .ok (.sipush 2800, 3) := by decide +kernel
theorem dX12_emits_3 : decode cX12_emits 3 = .ok (.aload_n 0, 1) := by decide +kernel
theorem dX12_emits_4 : decode cX12_emits 4 = .ok (.getfield 124, 3) := by decide +kernel
theorem dX12_emits_7 : decode cX12_emits 7 = .ok (.imul, 1) := by decide +kernel
theorem dX12_emits_8 : decode cX12_emits 8 = .ok (.aload_n 0, 1) := by decide +kernel
theorem dX12_emits_9 : decode cX12_emits 9 = .ok (.getfield 121, 3) := by decide +kernel
theorem dX12_emits_12 : decode cX12_emits 12 = .ok (.iadd, 1) := by decide +kernel
theorem dX12_emits_13 : decode cX12_emits 13 = .ok (.istore 4, 2) := by decide +kernel
theorem dX12_emits_15 : decode cX12_emits 15 = .ok (.aload_n 0, 1) := by decide +kernel
theorem dX12_emits_16 : decode cX12_emits 16 = .ok (.getfield 105, 3) := by decide +kernel
theorem dX12_emits_19 : decode cX12_emits 19 = .ok (.iload 4, 2) := by decide +kernel
theorem dX12_emits_21 : decode cX12_emits 21 = .ok (.iload_n 1, 1) := by decide +kernel
theorem dX12_emits_22 : decode cX12_emits 22 = .ok (.iastore, 1) := by decide +kernel
theorem dX12_emits_23 : decode cX12_emits 23 = .ok (.aload_n 0, 1) := by decide +kernel
theorem dX12_emits_24 : decode cX12_emits 24 = .ok (.getfield 108, 3) := by decide +kernel
theorem dX12_emits_27 : decode cX12_emits 27 = .ok (.iload 4, 2) := by decide +kernel
theorem dX12_emits_29 : decode cX12_emits 29 = .ok (.iload_n 2, 1) := by decide +kernel
theorem dX12_emits_30 : decode cX12_emits 30 = .ok (.iastore, 1) := by decide +kernel
theorem dX12_emits_31 : decode cX12_emits 31 = .ok (.aload_n 0, 1) := by decide +kernel
theorem dX12_emits_32 : decode cX12_emits 32 = .ok (.getfield 111, 3) := by decide +kernel
theorem dX12_emits_35 : decode cX12_emits 35 = .ok (.iload 4, 2) := by decide +kernel
theorem dX12_emits_37 : decode cX12_emits 37 = .ok (.iload_n 3, 1) := by decide +kernel
theorem dX12_emits_38 : decode cX12_emits 38 = .ok (.iastore, 1) := by decide +kernel
theorem dX12_emits_39 : decode cX12_emits 39 = .ok (.aload_n 0, 1) := by decide +kernel
theorem dX12_emits_40 : decode cX12_emits 40 = .ok (.dup, 1) := by decide +kernel
theorem dX12_emits_41 : decode cX12_emits 41 = .ok (.getfield 121, 3) := by decide +kernel
theorem dX12_emits_44 : decode cX12_emits 44 = .ok (.iconst 1, 1) := by decide +kernel
theorem dX12_emits_45 : decode cX12_emits 45 = .ok (.iadd, 1) := by decide +kernel
theorem dX12_emits_46 : decode cX12_emits 46 = .ok (.putfield 121, 3) := by decide +kernel
theorem dX12_emits_49 : decode cX12_emits 49 = .ok (.return_, 1) := by decide +kernel
theorem dX12_opensPattern_0 : decode cX12_opensPattern 0 = .ok (.aload_n 0, 1) := by decide +kernel
theorem dX12_opensPattern_1 : decode cX12_opensPattern 1 = .ok (.dup, 1) := by decide +kernel
theorem dX12_opensPattern_2 : decode cX12_opensPattern 2 = .ok (.getfield 143, 3) := by decide +kernel
theorem dX12_opensPattern_5 : decode cX12_opensPattern 5 = .ok (.iconst 1, 1) := by decide +kernel
theorem dX12_opensPattern_6 : decode cX12_opensPattern 6 = .ok (.iadd, 1) := by decide +kernel
theorem dX12_opensPattern_7 : decode cX12_opensPattern 7 = .ok (.putfield 143, 3) := by decide +kernel
theorem dX12_opensPattern_10 : decode cX12_opensPattern 10 = .ok (.aload_n 0, 1) := by decide +kernel
theorem dX12_opensPattern_11 : decode cX12_opensPattern 11 = .ok (.getfield 131, 3) := by decide +kernel
theorem dX12_opensPattern_14 : decode cX12_opensPattern 14 = .ok (.aload_n 0, 1) := by decide +kernel
theorem dX12_opensPattern_15 : decode cX12_opensPattern 15 = .ok (.getfield 143, 3) := by decide +kernel
theorem dX12_opensPattern_18 : decode cX12_opensPattern 18 = .ok (.iload_n 1, 1) := by decide +kernel
theorem dX12_opensPattern_19 : decode cX12_opensPattern 19 = .ok (.iastore, 1) := by decide +kernel
theorem dX12_opensPattern_20 : decode cX12_opensPattern 20 = .ok (.aload_n 0, 1) := by decide +kernel
theorem dX12_opensPattern_21 : decode cX12_opensPattern 21 = .ok (.getfield 134, 3) := by decide +kernel
theorem dX12_opensPattern_24 : decode cX12_opensPattern 24 = .ok (.aload_n 0, 1) := by decide +kernel
theorem dX12_opensPattern_25 : decode cX12_opensPattern 25 = .ok (.getfield 143, 3) := by decide +kernel
theorem dX12_opensPattern_28 : decode cX12_opensPattern 28 = .ok (.iconst 0, 1) := by decide +kernel
theorem dX12_opensPattern_29 : decode cX12_opensPattern 29 = .ok (.iastore, 1) := by decide +kernel
theorem dX12_opensPattern_30 : decode cX12_opensPattern 30 = .ok (.return_, 1) := by decide +kernel
theorem dX12_fieldBegins_0 : decode cX12_fieldBegins 0 = .ok (.aload_n 0, 1) := by decide +kernel
theorem dX12_fieldBegins_1 : decode cX12_fieldBegins 1 = .ok (.getfield 137, 3) := by decide +kernel
theorem dX12_fieldBegins_4 : decode cX12_fieldBegins 4 = .ok (.aload_n 0, 1) := by decide +kernel
theorem dX12_fieldBegins_5 : decode cX12_fieldBegins 5 = .ok (.getfield 143, 3) := by decide +kernel
theorem dX12_fieldBegins_8 : decode cX12_fieldBegins 8 = .ok (.iload_n 1, 1) := by decide +kernel
theorem dX12_fieldBegins_9 : decode cX12_fieldBegins 9 = .ok (.iastore, 1) := by decide +kernel
theorem dX12_fieldBegins_10 : decode cX12_fieldBegins 10 = .ok (.aload_n 0, 1) := by decide +kernel
theorem dX12_fieldBegins_11 : decode cX12_fieldBegins 11 = .ok (.getfield 140, 3) := by decide +kernel
theorem dX12_fieldBegins_14 : decode cX12_fieldBegins 14 = .ok (.aload_n 0, 1) := by decide +kernel
theorem dX12_fieldBegins_15 : decode cX12_fieldBegins 15 = .ok (.getfield 143, 3) := by decide +kernel
theorem dX12_fieldBegins_18 : decode cX12_fieldBegins 18 = .ok (.iload_n 2, 1) := by decide +kernel
theorem dX12_fieldBegins_19 : decode cX12_fieldBegins 19 = .ok (.iastore, 1) := by decide +kernel
theorem dX12_fieldBegins_20 : decode cX12_fieldBegins 20 = .ok (.aload_n 0, 1) := by decide +kernel
theorem dX12_fieldBegins_21 : decode cX12_fieldBegins 21 = .ok (.iconst 3, 1) := by decide +kernel
theorem dX12_fieldBegins_22 : decode cX12_fieldBegins 22 = .ok (.iload_n 1, 1) := by decide +kernel
theorem dX12_fieldBegins_23 : decode cX12_fieldBegins 23 = .ok (.iload_n 2, 1) := by decide +kernel
theorem dX12_fieldBegins_24 : decode cX12_fieldBegins 24 = .ok (.invokevirtual 400, 3) := by decide +kernel
theorem dX12_fieldBegins_27 : decode cX12_fieldBegins 27 = .ok (.aload_n 0, 1) := by decide +kernel
theorem dX12_fieldBegins_28 : decode cX12_fieldBegins 28 = .ok (.aload_n 0, 1) := by decide +kernel
theorem dX12_fieldBegins_29 : decode cX12_fieldBegins 29 = .ok (.getfield 72, 3) := by decide +kernel
theorem dX12_fieldBegins_32 : decode cX12_fieldBegins 32 = .ok (.iconst 2, 1) := by decide +kernel
theorem dX12_fieldBegins_33 : decode cX12_fieldBegins 33 = .ok (.bipush 24, 2) := by decide +kernel
theorem dX12_fieldBegins_35 : decode cX12_fieldBegins 35 = .ok (.aload_n 0, 1) := by decide +kernel
theorem dX12_fieldBegins_36 : decode cX12_fieldBegins 36 = .ok (.getfield 124, 3) := by decide +kernel
theorem dX12_fieldBegins_39 : decode cX12_fieldBegins 39 = .ok (.imul, 1) := by decide +kernel
theorem dX12_fieldBegins_40 : decode cX12_fieldBegins 40 = .ok (.iload_n 1, 1) := by decide +kernel
theorem dX12_fieldBegins_41 : decode cX12_fieldBegins 41 = .ok (.iadd, 1) := by decide +kernel
theorem dX12_fieldBegins_42 : decode cX12_fieldBegins 42 = .ok (.imul, 1) := by decide +kernel
theorem dX12_fieldBegins_43 : decode cX12_fieldBegins 43 = .ok (.iload_n 2, 1) := by decide +kernel
theorem dX12_fieldBegins_44 : decode cX12_fieldBegins 44 = .ok (.iadd, 1) := by decide +kernel
theorem dX12_fieldBegins_45 : decode cX12_fieldBegins 45 = .ok (.iaload, 1) := by decide +kernel
theorem dX12_fieldBegins_46 : decode cX12_fieldBegins 46 = .ok (.invokevirtual 404, 3) := by decide +kernel
theorem dX12_fieldBegins_49 : decode cX12_fieldBegins 49 = .ok (.return_, 1) := by decide +kernel
theorem dX12_range_0 : decode cX12_range 0 = .ok (.aload_n 0, 1) := by decide +kernel
theorem dX12_range_1 : decode cX12_range 1 = .ok (.iconst 0, 1) := by decide +kernel
theorem dX12_range_2 : decode cX12_range 2 = .ok (.bipush 19, 2) := by decide +kernel
theorem dX12_range_4 : decode cX12_range 4 = .ok (.invokevirtual 407, 3) := by decide +kernel
theorem dX12_range_7 : decode cX12_range 7 = .ok (.istore_n 1, 1) := by decide +kernel
theorem dX12_range_8 : decode cX12_range 8 = .ok (.aload_n 0, 1) := by decide +kernel
theorem dX12_range_9 : decode cX12_range 9 = .ok (.getfield 36, 3) := by decide +kernel
theorem dX12_range_12 : decode cX12_range 12 = .ok (.ifCond .le 4, 3) := by decide +kernel
theorem dX12_range_15 : decode cX12_range 15 = .ok (.return_, 1) := by decide +kernel
theorem dX12_range_16 : decode cX12_range 16 = .ok (.aload_n 0, 1) := by decide +kernel
theorem dX12_range_17 : decode cX12_range 17 = .ok (.invokevirtual 331, 3) := by decide +kernel
theorem dX12_range_20 : decode cX12_range 20 = .ok (.iload_n 1, 1) := by decide +kernel
theorem dX12_range_21 : decode cX12_range 21 = .ok (.istore_n 2, 1) := by decide +kernel
theorem dX12_range_22 : decode cX12_range 22 = .ok (.aload_n 0, 1) := by decide +kernel
theorem dX12_range_23 : decode cX12_range 23 = .ok (.getfield 36, 3) := by decide +kernel
theorem dX12_range_26 : decode cX12_range 26 = .ok (.ifCond .ne 25, 3) := by decide +kernel
theorem dX12_range_29 : decode cX12_range 29 = .ok (.aload_n 0, 1) := by decide +kernel
theorem dX12_range_30 : decode cX12_range 30 = .ok (.ldc2_w 360, 3) := by decide +kernel
theorem dX12_range_33 : decode cX12_range 33 = .ok (.invokevirtual 386, 3) := by decide +kernel
theorem dX12_range_36 : decode cX12_range 36 = .ok (.ifCond .eq 15, 3) := by decide +kernel
theorem dX12_range_39 : decode cX12_range 39 = .ok (.aload_n 0, 1) := by decide +kernel
theorem dX12_range_40 : decode cX12_range 40 = .ok (.invokevirtual 337, 3) := by decide +kernel
theorem dX12_range_43 : decode cX12_range 43 = .ok (.aload_n 0, 1) := by decide +kernel
theorem dX12_range_44 : decode cX12_range 44 = .ok (.iload_n 1, 1) := by decide +kernel
theorem dX12_range_45 : decode cX12_range 45 = .ok (.bipush 19, 2) := by decide +kernel
theorem dX12_range_47 : decode cX12_range 47 = .ok (.invokevirtual 407, 3) := by decide +kernel
theorem dX12_range_50 : decode cX12_range 50 = .ok (.istore_n 2, 1) := by decide +kernel
theorem dX12_range_51 : decode cX12_range 51 = .ok (.aload_n 0, 1) := by decide +kernel
theorem dX12_range_52 : decode cX12_range 52 = .ok (.getfield 36, 3) := by decide +kernel
theorem dX12_range_55 : decode cX12_range 55 = .ok (.ifCond .ne 10, 3) := by decide +kernel
theorem dX12_range_58 : decode cX12_range 58 = .ok (.aload_n 0, 1) := by decide +kernel
theorem dX12_range_59 : decode cX12_range 59 = .ok (.iconst 1, 1) := by decide +kernel
theorem dX12_range_60 : decode cX12_range 60 = .ok (.iload_n 1, 1) := by decide +kernel
theorem dX12_range_61 : decode cX12_range 61 = .ok (.iload_n 2, 1) := by decide +kernel
theorem dX12_range_62 : decode cX12_range 62 = .ok (.invokevirtual 400, 3) := by decide +kernel
theorem dX12_range_65 : decode cX12_range 65 = .ok (.return_, 1) := by decide +kernel
theorem dX12_alternative_0 : decode cX12_alternative 0 = .ok (.aload_n 0, 1) := by decide +kernel
theorem dX12_alternative_1 : decode cX12_alternative 1 = .ok (.invokevirtual 331, 3) := by decide +kernel
theorem dX12_alternative_4 : decode cX12_alternative 4 = .ok (.aload_n 0, 1) := by decide +kernel
theorem dX12_alternative_5 : decode cX12_alternative 5 = .ok (.getfield 36, 3) := by decide +kernel
theorem dX12_alternative_8 : decode cX12_alternative 8 = .ok (.ifCond .le 5, 3) := by decide +kernel
theorem dX12_alternative_11 : decode cX12_alternative 11 = .ok (.iconst 1, 1) := by decide +kernel
theorem dX12_alternative_12 : decode cX12_alternative 12 = .ok (.ireturn, 1) := by decide +kernel
theorem dX12_alternative_13 : decode cX12_alternative 13 = .ok (.aload_n 0, 1) := by decide +kernel
theorem dX12_alternative_14 : decode cX12_alternative 14 = .ok (.ldc2_w 356, 3) := by decide +kernel
theorem dX12_alternative_17 : decode cX12_alternative 17 = .ok (.invokevirtual 386, 3) := by decide +kernel
theorem dX12_alternative_20 : decode cX12_alternative 20 = .ok (.ifCond .eq 16, 3) := by decide +kernel
theorem dX12_alternative_23 : decode cX12_alternative 23 = .ok (.aload_n 0, 1) := by decide +kernel
theorem dX12_alternative_24 : decode cX12_alternative 24 = .ok (.invokevirtual 337, 3) := by decide +kernel
theorem dX12_alternative_27 : decode cX12_alternative 27 = .ok (.aload_n 0, 1) := by decide +kernel
theorem dX12_alternative_28 : decode cX12_alternative 28 = .ok (.iconst 0, 1) := by decide +kernel
theorem dX12_alternative_29 : decode cX12_alternative 29 = .ok (.iconst 0, 1) := by decide +kernel
theorem dX12_alternative_30 : decode cX12_alternative 30 = .ok (.iconst 0, 1) := by decide +kernel
theorem dX12_alternative_31 : decode cX12_alternative 31 = .ok (.invokevirtual 400, 3) := by decide +kernel
theorem dX12_alternative_34 : decode cX12_alternative 34 = .ok (.iconst 1, 1) := by decide +kernel
theorem dX12_alternative_35 : decode cX12_alternative 35 = .ok (.ireturn, 1) := by decide +kernel
theorem dX12_alternative_36 : decode cX12_alternative 36 = .ok (.aload_n 0, 1) := by decide +kernel
theorem dX12_alternative_37 : decode cX12_alternative 37 = .ok (.getfield 131, 3) := by decide +kernel
theorem dX12_alternative_40 : decode cX12_alternative 40 = .ok (.aload_n 0, 1) := by decide +kernel
theorem dX12_alternative_41 : decode cX12_alternative 41 = .ok (.getfield 143, 3) := by decide +kernel
theorem dX12_alternative_44 : decode cX12_alternative 44 = .ok (.iaload, 1) := by decide +kernel
theorem dX12_alternative_45 : decode cX12_alternative 45 = .ok (.istore_n 1, 1) := by decide +kernel
theorem dX12_alternative_46 : decode cX12_alternative 46 = .ok (.iload_n 1, 1) := by decide +kernel
theorem dX12_alternative_47 : decode cX12_alternative 47 = .ok (.iconst 4, 1) := by decide +kernel
theorem dX12_alternative_48 : decode cX12_alternative 48 = .ok (.if_icmp .ne 9, 3) := by decide +kernel
theorem dX12_alternative_51 : decode cX12_alternative 51 = .ok (.aload_n 0, 1) := by decide +kernel
theorem dX12_alternative_52 : decode cX12_alternative 52 = .ok (.invokevirtual 410, 3) := by decide +kernel
theorem dX12_alternative_55 : decode cX12_alternative 55 = .ok (.iconst 1, 1) := by decide +kernel
theorem dX12_alternative_56 : decode cX12_alternative 56 = .ok (.ireturn, 1) := by decide +kernel
theorem dX12_alternative_57 : decode cX12_alternative 57 = .ok (.aload_n 0, 1) := by decide +kernel
theorem dX12_alternative_58 : decode cX12_alternative 58 = .ok (.getfield 20, 3) := by decide +kernel
theorem dX12_alternative_61 : decode cX12_alternative 61 = .ok (.iconst 1, 1) := by decide +kernel
theorem dX12_alternative_62 : decode cX12_alternative 62 = .ok (.if_icmp .ne 14, 3) := by decide +kernel
theorem dX12_alternative_65 : decode cX12_alternative 65 = .ok (.aload_n 0, 1) := by decide +kernel
theorem dX12_alternative_66 : decode cX12_alternative 66 = .ok (.aload_n 0, 1) := by decide +kernel
theorem dX12_alternative_67 : decode cX12_alternative 67 = .ok (.getfield 32, 3) := by decide +kernel
theorem dX12_alternative_70 : decode cX12_alternative 70 = .ok (.invokevirtual 366, 3) := by decide +kernel
theorem dX12_alternative_73 : decode cX12_alternative 73 = .ok (.ifCond .eq 12, 3) := by decide +kernel
theorem dX12_alternative_76 : decode cX12_alternative 76 = .ok (.aload_n 0, 1) := by decide +kernel
theorem dX12_alternative_77 : decode cX12_alternative 77 = .ok (.iconst 1, 1) := by decide +kernel
theorem dX12_alternative_78 : decode cX12_alternative 78 = .ok (.aload_n 0, 1) := by decide +kernel
theorem dX12_alternative_79 : decode cX12_alternative 79 = .ok (.getfield 23, 3) := by decide +kernel
theorem dX12_alternative_82 : decode cX12_alternative 82 = .ok (.invokevirtual 320, 3) := by decide +kernel
theorem dX12_alternative_85 : decode cX12_alternative 85 = .ok (.aload_n 0, 1) := by decide +kernel
theorem dX12_alternative_86 : decode cX12_alternative 86 = .ok (.getfield 36, 3) := by decide +kernel
theorem dX12_alternative_89 : decode cX12_alternative 89 = .ok (.ifCond .le 7, 3) := by decide +kernel
theorem dX12_alternative_92 : decode cX12_alternative 92 = .ok (.iconst (-1), 1) := by decide +kernel
theorem dX12_alternative_93 : decode cX12_alternative 93 = .ok (.goto 15, 3) := by decide +kernel
theorem dX12_alternative_96 : decode cX12_alternative 96 = .ok (.aload_n 0, 1) := by decide +kernel
theorem dX12_alternative_97 : decode cX12_alternative 97 = .ok (.aload_n 0, 1) := by decide +kernel
theorem dX12_alternative_98 : decode cX12_alternative 98 = .ok (.getfield 124, 3) := by decide +kernel
theorem dX12_alternative_101 : decode cX12_alternative 101 = .ok (.aload_n 0, 1) := by decide +kernel
theorem dX12_alternative_102 : decode cX12_alternative 102 = .ok (.getfield 32, 3) := by decide +kernel
theorem dX12_alternative_105 : decode cX12_alternative 105 = .ok (.invokevirtual 374, 3) := by decide +kernel
theorem dX12_alternative_108 : decode cX12_alternative 108 = .ok (.istore_n 2, 1) := by decide +kernel
theorem dX12_alternative_109 : decode cX12_alternative 109 = .ok (.aload_n 0, 1) := by decide +kernel
theorem dX12_alternative_110 : decode cX12_alternative 110 = .ok (.getfield 36, 3) := by decide +kernel
theorem dX12_alternative_113 : decode cX12_alternative 113 = .ok (.ifCond .ne 35, 3) := by decide +kernel
theorem dX12_alternative_116 : decode cX12_alternative 116 = .ok (.iload_n 2, 1) := by decide +kernel
theorem dX12_alternative_117 : decode cX12_alternative 117 = .ok (.iconst (-1), 1) := by decide +kernel
theorem dX12_alternative_118 : decode cX12_alternative 118 = .ok (.if_icmp .eq 21, 3) := by decide +kernel
theorem dX12_alternative_121 : decode cX12_alternative 121 = .ok (.aload_n 0, 1) := by decide +kernel
theorem dX12_alternative_122 : decode cX12_alternative 122 = .ok (.getfield 66, 3) := by decide +kernel
theorem dX12_alternative_125 : decode cX12_alternative 125 = .ok (.bipush 24, 2) := by decide +kernel
theorem dX12_alternative_127 : decode cX12_alternative 127 = .ok (.aload_n 0, 1) := by decide +kernel
theorem dX12_alternative_128 : decode cX12_alternative 128 = .ok (.getfield 124, 3) := by decide +kernel
theorem dX12_alternative_131 : decode cX12_alternative 131 = .ok (.imul, 1) := by decide +kernel
theorem dX12_alternative_132 : decode cX12_alternative 132 = .ok (.iload_n 2, 1) := by decide +kernel
theorem dX12_alternative_133 : decode cX12_alternative 133 = .ok (.iadd, 1) := by decide +kernel
theorem dX12_alternative_134 : decode cX12_alternative 134 = .ok (.iaload, 1) := by decide +kernel
theorem dX12_alternative_135 : decode cX12_alternative 135 = .ok (.iload_n 1, 1) := by decide +kernel
theorem dX12_alternative_136 : decode cX12_alternative 136 = .ok (.if_icmp .eq 12, 3) := by decide +kernel
theorem dX12_alternative_139 : decode cX12_alternative 139 = .ok (.aload_n 0, 1) := by decide +kernel
theorem dX12_alternative_140 : decode cX12_alternative 140 = .ok (.iconst 3, 1) := by decide +kernel
theorem dX12_alternative_141 : decode cX12_alternative 141 = .ok (.aload_n 0, 1) := by decide +kernel
theorem dX12_alternative_142 : decode cX12_alternative 142 = .ok (.getfield 23, 3) := by decide +kernel
theorem dX12_alternative_145 : decode cX12_alternative 145 = .ok (.invokevirtual 320, 3) := by decide +kernel
theorem dX12_alternative_148 : decode cX12_alternative 148 = .ok (.aload_n 0, 1) := by decide +kernel
theorem dX12_alternative_149 : decode cX12_alternative 149 = .ok (.getfield 36, 3) := by decide +kernel
theorem dX12_alternative_152 : decode cX12_alternative 152 = .ok (.ifCond .le 5, 3) := by decide +kernel
theorem dX12_alternative_155 : decode cX12_alternative 155 = .ok (.iconst 1, 1) := by decide +kernel
theorem dX12_alternative_156 : decode cX12_alternative 156 = .ok (.ireturn, 1) := by decide +kernel
theorem dX12_alternative_157 : decode cX12_alternative 157 = .ok (.aload_n 0, 1) := by decide +kernel
theorem dX12_alternative_158 : decode cX12_alternative 158 = .ok (.invokevirtual 337, 3) := by decide +kernel
theorem dX12_alternative_161 : decode cX12_alternative 161 = .ok (.aload_n 0, 1) := by decide +kernel
theorem dX12_alternative_162 : decode cX12_alternative 162 = .ok (.iconst 2, 1) := by decide +kernel
theorem dX12_alternative_163 : decode cX12_alternative 163 = .ok (.iload_n 2, 1) := by decide +kernel
theorem dX12_alternative_164 : decode cX12_alternative 164 = .ok (.iconst 0, 1) := by decide +kernel
theorem dX12_alternative_165 : decode cX12_alternative 165 = .ok (.invokevirtual 400, 3) := by decide +kernel
theorem dX12_alternative_168 : decode cX12_alternative 168 = .ok (.aload_n 0, 1) := by decide +kernel
theorem dX12_alternative_169 : decode cX12_alternative 169 = .ok (.getfield 69, 3) := by decide +kernel
theorem dX12_alternative_172 : decode cX12_alternative 172 = .ok (.bipush 24, 2) := by decide +kernel
theorem dX12_alternative_174 : decode cX12_alternative 174 = .ok (.aload_n 0, 1) := by decide +kernel
theorem dX12_alternative_175 : decode cX12_alternative 175 = .ok (.getfield 124, 3) := by decide +kernel
theorem dX12_alternative_178 : decode cX12_alternative 178 = .ok (.imul, 1) := by decide +kernel
theorem dX12_alternative_179 : decode cX12_alternative 179 = .ok (.iload_n 2, 1) := by decide +kernel
theorem dX12_alternative_180 : decode cX12_alternative 180 = .ok (.iadd, 1) := by decide +kernel
theorem dX12_alternative_181 : decode cX12_alternative 181 = .ok (.iaload, 1) := by decide +kernel
theorem dX12_alternative_182 : decode cX12_alternative 182 = .ok (.ifCond .ne 5, 3) := by decide +kernel
theorem dX12_alternative_185 : decode cX12_alternative 185 = .ok (.iconst 1, 1) := by decide +kernel
theorem dX12_alternative_186 : decode cX12_alternative 186 = .ok (.ireturn, 1) := by decide +kernel
theorem dX12_alternative_187 : decode cX12_alternative 187 = .ok (.aload_n 0, 1) := by decide +kernel
theorem dX12_alternative_188 : decode cX12_alternative 188 = .ok (.bipush 40, 2) := by decide +kernel
theorem dX12_alternative_190 : decode cX12_alternative 190 = .ok (.invokevirtual 413, 3) := by decide +kernel
theorem dX12_alternative_193 : decode cX12_alternative 193 = .ok (.aload_n 0, 1) := by decide +kernel
theorem dX12_alternative_194 : decode cX12_alternative 194 = .ok (.getfield 36, 3) := by decide +kernel
theorem dX12_alternative_197 : decode cX12_alternative 197 = .ok (.ifCond .ne 9, 3) := by decide +kernel
theorem dX12_alternative_200 : decode cX12_alternative 200 = .ok (.aload_n 0, 1) := by decide +kernel
theorem dX12_alternative_201 : decode cX12_alternative 201 = .ok (.iload_n 2, 1) := by decide +kernel
theorem dX12_alternative_202 : decode cX12_alternative 202 = .ok (.iconst 0, 1) := by decide +kernel
theorem dX12_alternative_203 : decode cX12_alternative 203 = .ok (.invokevirtual 416, 3) := by decide +kernel
theorem dX12_alternative_206 : decode cX12_alternative 206 = .ok (.aload_n 0, 1) := by decide +kernel
theorem dX12_alternative_207 : decode cX12_alternative 207 = .ok (.getfield 36, 3) := by decide +kernel
theorem dX12_alternative_210 : decode cX12_alternative 210 = .ok (.ifCond .le 7, 3) := by decide +kernel
theorem dX12_alternative_213 : decode cX12_alternative 213 = .ok (.iconst 1, 1) := by decide +kernel
theorem dX12_alternative_214 : decode cX12_alternative 214 = .ok (.goto 4, 3) := by decide +kernel
theorem dX12_alternative_217 : decode cX12_alternative 217 = .ok (.iconst 0, 1) := by decide +kernel
theorem dX12_alternative_218 : decode cX12_alternative 218 = .ok (.ireturn, 1) := by decide +kernel
theorem dX12_goesOn_0 : decode cX12_goesOn 0 = .ok (.aload_n 0, 1) := by decide +kernel
theorem dX12_goesOn_1 : decode cX12_goesOn 1 = .ok (.getfield 36, 3) := by decide +kernel
theorem dX12_goesOn_4 : decode cX12_goesOn 4 = .ok (.ifCond .ne 188, 3) := by decide +kernel
theorem dX12_goesOn_7 : decode cX12_goesOn 7 = .ok (.aload_n 0, 1) := by decide +kernel
theorem dX12_goesOn_8 : decode cX12_goesOn 8 = .ok (.getfield 134, 3) := by decide +kernel
theorem dX12_goesOn_11 : decode cX12_goesOn 11 = .ok (.aload_n 0, 1) := by decide +kernel
theorem dX12_goesOn_12 : decode cX12_goesOn 12 = .ok (.getfield 143, 3) := by decide +kernel
theorem dX12_goesOn_15 : decode cX12_goesOn 15 = .ok (.iaload, 1) := by decide +kernel
theorem dX12_goesOn_16 : decode cX12_goesOn 16 = .ok (.ifCond .le 11, 3) := by decide +kernel
theorem dX12_goesOn_19 : decode cX12_goesOn 19 = .ok (.aload_n 0, 1) := by decide +kernel
theorem dX12_goesOn_20 : decode cX12_goesOn 20 = .ok (.bipush 6, 2) := by decide +kernel
theorem dX12_goesOn_22 : decode cX12_goesOn 22 = .ok (.iconst 0, 1) := by decide +kernel
theorem dX12_goesOn_23 : decode cX12_goesOn 23 = .ok (.iconst 0, 1) := by decide +kernel
theorem dX12_goesOn_24 : decode cX12_goesOn 24 = .ok (.invokevirtual 400, 3) := by decide +kernel
theorem dX12_goesOn_27 : decode cX12_goesOn 27 = .ok (.aload_n 0, 1) := by decide +kernel
theorem dX12_goesOn_28 : decode cX12_goesOn 28 = .ok (.getfield 134, 3) := by decide +kernel
theorem dX12_goesOn_31 : decode cX12_goesOn 31 = .ok (.aload_n 0, 1) := by decide +kernel
theorem dX12_goesOn_32 : decode cX12_goesOn 32 = .ok (.getfield 143, 3) := by decide +kernel
theorem dX12_goesOn_35 : decode cX12_goesOn 35 = .ok (.dup2, 1) := by decide +kernel
theorem dX12_goesOn_36 : decode cX12_goesOn 36 = .ok (.iaload, 1) := by decide +kernel
theorem dX12_goesOn_37 : decode cX12_goesOn 37 = .ok (.iconst 1, 1) := by decide +kernel
theorem dX12_goesOn_38 : decode cX12_goesOn 38 = .ok (.iadd, 1) := by decide +kernel
theorem dX12_goesOn_39 : decode cX12_goesOn 39 = .ok (.iastore, 1) := by decide +kernel
theorem dX12_goesOn_40 : decode cX12_goesOn 40 = .ok (.aload_n 0, 1) := by decide +kernel
theorem dX12_goesOn_41 : decode cX12_goesOn 41 = .ok (.invokevirtual 331, 3) := by decide +kernel
theorem dX12_goesOn_44 : decode cX12_goesOn 44 = .ok (.aload_n 0, 1) := by decide +kernel
theorem dX12_goesOn_45 : decode cX12_goesOn 45 = .ok (.getfield 36, 3) := by decide +kernel
theorem dX12_goesOn_48 : decode cX12_goesOn 48 = .ok (.ifCond .le 5, 3) := by decide +kernel
theorem dX12_goesOn_51 : decode cX12_goesOn 51 = .ok (.iconst 0, 1) := by decide +kernel
theorem dX12_goesOn_52 : decode cX12_goesOn 52 = .ok (.ireturn, 1) := by decide +kernel
theorem dX12_goesOn_53 : decode cX12_goesOn 53 = .ok (.aload_n 0, 1) := by decide +kernel
theorem dX12_goesOn_54 : decode cX12_goesOn 54 = .ok (.ldc2_w 358, 3) := by decide +kernel
theorem dX12_goesOn_57 : decode cX12_goesOn 57 = .ok (.invokevirtual 386, 3) := by decide +kernel
theorem dX12_goesOn_60 : decode cX12_goesOn 60 = .ok (.ifCond .eq 9, 3) := by decide +kernel
theorem dX12_goesOn_63 : decode cX12_goesOn 63 = .ok (.aload_n 0, 1) := by decide +kernel
theorem dX12_goesOn_64 : decode cX12_goesOn 64 = .ok (.invokevirtual 337, 3) := by decide +kernel
theorem dX12_goesOn_67 : decode cX12_goesOn 67 = .ok (.iconst 1, 1) := by decide +kernel
theorem dX12_goesOn_68 : decode cX12_goesOn 68 = .ok (.ireturn, 1) := by decide +kernel
theorem dX12_goesOn_69 : decode cX12_goesOn 69 = .ok (.aload_n 0, 1) := by decide +kernel
theorem dX12_goesOn_70 : decode cX12_goesOn 70 = .ok (.dup, 1) := by decide +kernel
theorem dX12_goesOn_71 : decode cX12_goesOn 71 = .ok (.getfield 143, 3) := by decide +kernel
theorem dX12_goesOn_74 : decode cX12_goesOn 74 = .ok (.iconst 1, 1) := by decide +kernel
theorem dX12_goesOn_75 : decode cX12_goesOn 75 = .ok (.isub, 1) := by decide +kernel
theorem dX12_goesOn_76 : decode cX12_goesOn 76 = .ok (.putfield 143, 3) := by decide +kernel
theorem dX12_goesOn_79 : decode cX12_goesOn 79 = .ok (.aload_n 0, 1) := by decide +kernel
theorem dX12_goesOn_80 : decode cX12_goesOn 80 = .ok (.getfield 143, 3) := by decide +kernel
theorem dX12_goesOn_83 : decode cX12_goesOn 83 = .ok (.iload_n 1, 1) := by decide +kernel
theorem dX12_goesOn_84 : decode cX12_goesOn 84 = .ok (.if_icmp .ne 5, 3) := by decide +kernel
theorem dX12_goesOn_87 : decode cX12_goesOn 87 = .ok (.iconst 0, 1) := by decide +kernel
theorem dX12_goesOn_88 : decode cX12_goesOn 88 = .ok (.ireturn, 1) := by decide +kernel
theorem dX12_goesOn_89 : decode cX12_goesOn 89 = .ok (.aload_n 0, 1) := by decide +kernel
theorem dX12_goesOn_90 : decode cX12_goesOn 90 = .ok (.iconst 4, 1) := by decide +kernel
theorem dX12_goesOn_91 : decode cX12_goesOn 91 = .ok (.iconst 0, 1) := by decide +kernel
theorem dX12_goesOn_92 : decode cX12_goesOn 92 = .ok (.iconst 0, 1) := by decide +kernel
theorem dX12_goesOn_93 : decode cX12_goesOn 93 = .ok (.invokevirtual 400, 3) := by decide +kernel
theorem dX12_goesOn_96 : decode cX12_goesOn 96 = .ok (.aload_n 0, 1) := by decide +kernel
theorem dX12_goesOn_97 : decode cX12_goesOn 97 = .ok (.iconst 5, 1) := by decide +kernel
theorem dX12_goesOn_98 : decode cX12_goesOn 98 = .ok (.iconst 0, 1) := by decide +kernel
theorem dX12_goesOn_99 : decode cX12_goesOn 99 = .ok (.iconst 0, 1) := by decide +kernel
theorem dX12_goesOn_100 : decode cX12_goesOn 100 = .ok (.invokevirtual 400, 3) := by decide +kernel
theorem dX12_goesOn_103 : decode cX12_goesOn 103 = .ok (.aload_n 0, 1) := by decide +kernel
theorem dX12_goesOn_104 : decode cX12_goesOn 104 = .ok (.getfield 137, 3) := by decide +kernel
theorem dX12_goesOn_107 : decode cX12_goesOn 107 = .ok (.aload_n 0, 1) := by decide +kernel
theorem dX12_goesOn_108 : decode cX12_goesOn 108 = .ok (.getfield 143, 3) := by decide +kernel
theorem dX12_goesOn_111 : decode cX12_goesOn 111 = .ok (.iaload, 1) := by decide +kernel
theorem dX12_goesOn_112 : decode cX12_goesOn 112 = .ok (.istore_n 2, 1) := by decide +kernel
theorem dX12_goesOn_113 : decode cX12_goesOn 113 = .ok (.aload_n 0, 1) := by decide +kernel
theorem dX12_goesOn_114 : decode cX12_goesOn 114 = .ok (.getfield 140, 3) := by decide +kernel
theorem dX12_goesOn_117 : decode cX12_goesOn 117 = .ok (.aload_n 0, 1) := by decide +kernel
theorem dX12_goesOn_118 : decode cX12_goesOn 118 = .ok (.getfield 143, 3) := by decide +kernel
theorem dX12_goesOn_121 : decode cX12_goesOn 121 = .ok (.iaload, 1) := by decide +kernel
theorem dX12_goesOn_122 : decode cX12_goesOn 122 = .ok (.iconst 1, 1) := by decide +kernel
theorem dX12_goesOn_123 : decode cX12_goesOn 123 = .ok (.iadd, 1) := by decide +kernel
theorem dX12_goesOn_124 : decode cX12_goesOn 124 = .ok (.aload_n 0, 1) := by decide +kernel
theorem dX12_goesOn_125 : decode cX12_goesOn 125 = .ok (.getfield 69, 3) := by decide +kernel
theorem dX12_goesOn_128 : decode cX12_goesOn 128 = .ok (.bipush 24, 2) := by decide +kernel
theorem dX12_goesOn_130 : decode cX12_goesOn 130 = .ok (.aload_n 0, 1) := by decide +kernel
theorem dX12_goesOn_131 : decode cX12_goesOn 131 = .ok (.getfield 124, 3) := by decide +kernel
theorem dX12_goesOn_134 : decode cX12_goesOn 134 = .ok (.imul, 1) := by decide +kernel
theorem dX12_goesOn_135 : decode cX12_goesOn 135 = .ok (.iload_n 2, 1) := by decide +kernel
theorem dX12_goesOn_136 : decode cX12_goesOn 136 = .ok (.iadd, 1) := by decide +kernel
theorem dX12_goesOn_137 : decode cX12_goesOn 137 = .ok (.iaload, 1) := by decide +kernel
theorem dX12_goesOn_138 : decode cX12_goesOn 138 = .ok (.if_icmp .ge 45, 3) := by decide +kernel
theorem dX12_goesOn_141 : decode cX12_goesOn 141 = .ok (.aload_n 0, 1) := by decide +kernel
theorem dX12_goesOn_142 : decode cX12_goesOn 142 = .ok (.bipush 44, 2) := by decide +kernel
theorem dX12_goesOn_144 : decode cX12_goesOn 144 = .ok (.invokevirtual 413, 3) := by decide +kernel
theorem dX12_goesOn_147 : decode cX12_goesOn 147 = .ok (.aload_n 0, 1) := by decide +kernel
theorem dX12_goesOn_148 : decode cX12_goesOn 148 = .ok (.getfield 36, 3) := by decide +kernel
theorem dX12_goesOn_151 : decode cX12_goesOn 151 = .ok (.ifCond .ne 19, 3) := by decide +kernel
theorem dX12_goesOn_154 : decode cX12_goesOn 154 = .ok (.aload_n 0, 1) := by decide +kernel
theorem dX12_goesOn_155 : decode cX12_goesOn 155 = .ok (.iload_n 2, 1) := by decide +kernel
theorem dX12_goesOn_156 : decode cX12_goesOn 156 = .ok (.aload_n 0, 1) := by decide +kernel
theorem dX12_goesOn_157 : decode cX12_goesOn 157 = .ok (.getfield 140, 3) := by decide +kernel
theorem dX12_goesOn_160 : decode cX12_goesOn 160 = .ok (.aload_n 0, 1) := by decide +kernel
theorem dX12_goesOn_161 : decode cX12_goesOn 161 = .ok (.getfield 143, 3) := by decide +kernel
theorem dX12_goesOn_164 : decode cX12_goesOn 164 = .ok (.iaload, 1) := by decide +kernel
theorem dX12_goesOn_165 : decode cX12_goesOn 165 = .ok (.iconst 1, 1) := by decide +kernel
theorem dX12_goesOn_166 : decode cX12_goesOn 166 = .ok (.iadd, 1) := by decide +kernel
theorem dX12_goesOn_167 : decode cX12_goesOn 167 = .ok (.invokevirtual 416, 3) := by decide +kernel
theorem dX12_goesOn_170 : decode cX12_goesOn 170 = .ok (.aload_n 0, 1) := by decide +kernel
theorem dX12_goesOn_171 : decode cX12_goesOn 171 = .ok (.getfield 36, 3) := by decide +kernel
end
