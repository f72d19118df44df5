theorem dX7_step_171 : decode cX7_step 171 = .ok (.iload_n 3, 1) := by decide +kernel
theorem dX7_step_172 : decode cX7_step 172 = .ok (.bipush 57, 2) := by decide +kernel
theorem dX7_step_174 : decode cX7_step 174 = .ok (.if_icmp .gt 7, 3) := by decide +kernel
theorem dX7_step_177 : decode cX7_step 177 = .ok (.iconst 1, 1) := by decide +kernel
theorem dX7_step_178 : decode cX7_step 178 = .ok (.goto 4, 3) := by decide +kernel
theorem dX7_step_181 : decode cX7_step 181 = .ok (.iconst 0, 1) := by decide +kernel
theorem dX7_step_182 : decode cX7_step 182 = .ok (.istore 5, 2) := by decide +kernel
theorem dX7_step_184 : decode cX7_step 184 = .ok (.iload 4, 2) := by decide +kernel
theorem dX7_step_186 : decode cX7_step 186 = .ok (.ifCond .ne 31, 3) := by decide +kernel
theorem dX7_step_189 : decode cX7_step 189 = .ok (.iload 5, 2) := by decide +kernel
theorem dX7_step_191 : decode cX7_step 191 = .ok (.ifCond .ne 26, 3) := by decide +kernel
theorem dX7_step_194 : decode cX7_step 194 = .ok (.aload_n 0, 1) := by decide +kernel
theorem dX7_step_195 : decode cX7_step 195 = .ok (.iconst 3, 1) := by decide +kernel
theorem dX7_step_196 : decode cX7_step 196 = .ok (.putfield 75, 3) := by decide +kernel
theorem dX7_step_199 : decode cX7_step 199 = .ok (.aload_n 0, 1) := by decide +kernel
theorem dX7_step_200 : decode cX7_step 200 = .ok (.iload_n 3, 1) := by decide +kernel
theorem dX7_step_201 : decode cX7_step 201 = .ok (.putfield 90, 3) := by decide +kernel
theorem dX7_step_204 : decode cX7_step 204 = .ok (.aload_n 0, 1) := by decide +kernel
theorem dX7_step_205 : decode cX7_step 205 = .ok (.dup, 1) := by decide +kernel
theorem dX7_step_206 : decode cX7_step 206 = .ok (.getfield 72, 3) := by decide +kernel
theorem dX7_step_209 : decode cX7_step 209 = .ok (.iconst 1, 1) := by decide +kernel
theorem dX7_step_210 : decode cX7_step 210 = .ok (.iadd, 1) := by decide +kernel
theorem dX7_step_211 : decode cX7_step 211 = .ok (.putfield 72, 3) := by decide +kernel
theorem dX7_step_214 : decode cX7_step 214 = .ok (.goto 39, 3) := by decide +kernel
theorem dX7_step_217 : decode cX7_step 217 = .ok (.iload_n 1, 1) := by decide +kernel
theorem dX7_step_218 : decode cX7_step 218 = .ok (.ifCond .eq 19, 3) := by decide +kernel
theorem dX7_step_221 : decode cX7_step 221 = .ok (.iload_n 2, 1) := by decide +kernel
theorem dX7_step_222 : decode cX7_step 222 = .ok (.aload_n 0, 1) := by decide +kernel
theorem dX7_step_223 : decode cX7_step 223 = .ok (.getfield 81, 3) := by decide +kernel
theorem dX7_step_226 : decode cX7_step 226 = .ok (.if_icmp .ne 11, 3) := by decide +kernel
theorem dX7_step_229 : decode cX7_step 229 = .ok (.aload_n 0, 1) := by decide +kernel
theorem dX7_step_230 : decode cX7_step 230 = .ok (.iconst 4, 1) := by decide +kernel
theorem dX7_step_231 : decode cX7_step 231 = .ok (.putfield 75, 3) := by decide +kernel
theorem dX7_step_234 : decode cX7_step 234 = .ok (.goto 19, 3) := by decide +kernel
theorem dX7_step_237 : decode cX7_step 237 = .ok (.iload 4, 2) := by decide +kernel
theorem dX7_step_239 : decode cX7_step 239 = .ok (.ifCond .eq 10, 3) := by decide +kernel
theorem dX7_step_242 : decode cX7_step 242 = .ok (.aload_n 0, 1) := by decide +kernel
theorem dX7_step_243 : decode cX7_step 243 = .ok (.invokevirtual 93, 3) := by decide +kernel
theorem dX7_step_246 : decode cX7_step 246 = .ok (.goto 7, 3) := by decide +kernel
theorem dX7_step_249 : decode cX7_step 249 = .ok (.aload_n 0, 1) := by decide +kernel
theorem dX7_step_250 : decode cX7_step 250 = .ok (.invokevirtual 96, 3) := by decide +kernel
theorem dX7_step_253 : decode cX7_step 253 = .ok (.return_, 1) := by decide +kernel
theorem dX7_stepWord_0 : decode cX7_stepWord 0 = .ok (.aload_n 0, 1) := by decide +kernel
theorem dX7_stepWord_1 : decode cX7_stepWord 1 = .ok (.iconst 1, 1) := by decide +kernel
theorem dX7_stepWord_2 : decode cX7_stepWord 2 = .ok (.putfield 75, 3) := by decide +kernel
theorem dX7_stepWord_5 : decode cX7_stepWord 5 = .ok (.iconst 0, 1) := by decide +kernel
theorem dX7_stepWord_6 : decode cX7_stepWord 6 = .ok (.istore_n 1, 1) := by decide +kernel
theorem dX7_stepWord_7 : decode cX7_stepWord 7 = .ok (.aload_n 0, 1) := by decide +kernel
theorem dX7_stepWord_8 : decode cX7_stepWord 8 = .ok (.getfield 72, 3) := by decide +kernel
theorem dX7_stepWord_11 : decode cX7_stepWord 11 = .ok (.ifCond .lt 104, 3) := by decide +kernel
theorem dX7_stepWord_14 : decode cX7_stepWord 14 = .ok (.aload_n 0, 1) := by decide +kernel
theorem dX7_stepWord_15 : decode cX7_stepWord 15 = .ok (.getfield 72, 3) := by decide +kernel
theorem dX7_stepWord_18 : decode cX7_stepWord 18 = .ok (.aload_n 0, 1) := by decide +kernel
theorem dX7_stepWord_19 : decode cX7_stepWord 19 = .ok (.getfield 71, 3) := by decide +kernel
theorem dX7_stepWord_22 : decode cX7_stepWord 22 = .ok (.if_icmp .ge 93, 3) := by decide +kernel
theorem dX7_stepWord_25 : decode cX7_stepWord 25 = .ok (.aload_n 0, 1) := by decide +kernel
theorem dX7_stepWord_26 : decode cX7_stepWord 26 = .ok (.getfield 41, 3) := by decide +kernel
theorem dX7_stepWord_29 : decode cX7_stepWord 29 = .ok (.aload_n 0, 1) := by decide +kernel
theorem dX7_stepWord_30 : decode cX7_stepWord 30 = .ok (.getfield 72, 3) := by decide +kernel
theorem dX7_stepWord_33 : decode cX7_stepWord 33 = .ok (.iaload, 1) := by decide +kernel
theorem dX7_stepWord_34 : decode cX7_stepWord 34 = .ok (.bipush 97, 2) := by decide +kernel
theorem dX7_stepWord_36 : decode cX7_stepWord 36 = .ok (.if_icmp .lt 79, 3) := by decide +kernel
theorem dX7_stepWord_39 : decode cX7_stepWord 39 = .ok (.aload_n 0, 1) := by decide +kernel
theorem dX7_stepWord_40 : decode cX7_stepWord 40 = .ok (.getfield 41, 3) := by decide +kernel
theorem dX7_stepWord_43 : decode cX7_stepWord 43 = .ok (.aload_n 0, 1) := by decide +kernel
theorem dX7_stepWord_44 : decode cX7_stepWord 44 = .ok (.getfield 72, 3) := by decide +kernel
theorem dX7_stepWord_47 : decode cX7_stepWord 47 = .ok (.iaload, 1) := by decide +kernel
theorem dX7_stepWord_48 : decode cX7_stepWord 48 = .ok (.bipush 122, 2) := by decide +kernel
theorem dX7_stepWord_50 : decode cX7_stepWord 50 = .ok (.if_icmp .gt 65, 3) := by decide +kernel
theorem dX7_stepWord_53 : decode cX7_stepWord 53 = .ok (.iload_n 1, 1) := by decide +kernel
theorem dX7_stepWord_54 : decode cX7_stepWord 54 = .ok (.bipush 6, 2) := by decide +kernel
theorem dX7_stepWord_56 : decode cX7_stepWord 56 = .ok (.if_icmp .ne 17, 3) := by decide +kernel
theorem dX7_stepWord_59 : decode cX7_stepWord 59 = .ok (.aload_n 0, 1) := by decide +kernel
theorem dX7_stepWord_60 : decode cX7_stepWord 60 = .ok (.iconst 4, 1) := by decide +kernel
theorem dX7_stepWord_61 : decode cX7_stepWord 61 = .ok (.putfield 75, 3) := by decide +kernel
theorem dX7_stepWord_64 : decode cX7_stepWord 64 = .ok (.aload_n 0, 1) := by decide +kernel
theorem dX7_stepWord_65 : decode cX7_stepWord 65 = .ok (.aload_n 0, 1) := by decide +kernel
theorem dX7_stepWord_66 : decode cX7_stepWord 66 = .ok (.getfield 72, 3) := by decide +kernel
theorem dX7_stepWord_69 : decode cX7_stepWord 69 = .ok (.putfield 84, 3) := by decide +kernel
theorem dX7_stepWord_72 : decode cX7_stepWord 72 = .ok (.return_, 1) := by decide +kernel
theorem dX7_stepWord_73 : decode cX7_stepWord 73 = .ok (.aload_n 0, 1) := by decide +kernel
theorem dX7_stepWord_74 : decode cX7_stepWord 74 = .ok (.aload_n 0, 1) := by decide +kernel
theorem dX7_stepWord_75 : decode cX7_stepWord 75 = .ok (.getfield 90, 3) := by decide +kernel
theorem dX7_stepWord_78 : decode cX7_stepWord 78 = .ok (.bipush 27, 2) := by decide +kernel
theorem dX7_stepWord_80 : decode cX7_stepWord 80 = .ok (.imul, 1) := by decide +kernel
theorem dX7_stepWord_81 : decode cX7_stepWord 81 = .ok (.aload_n 0, 1) := by decide +kernel
theorem dX7_stepWord_82 : decode cX7_stepWord 82 = .ok (.getfield 41, 3) := by decide +kernel
theorem dX7_stepWord_85 : decode cX7_stepWord 85 = .ok (.aload_n 0, 1) := by decide +kernel
theorem dX7_stepWord_86 : decode cX7_stepWord 86 = .ok (.getfield 72, 3) := by decide +kernel
theorem dX7_stepWord_89 : decode cX7_stepWord 89 = .ok (.iaload, 1) := by decide +kernel
theorem dX7_stepWord_90 : decode cX7_stepWord 90 = .ok (.iadd, 1) := by decide +kernel
theorem dX7_stepWord_91 : decode cX7_stepWord 91 = .ok (.bipush 97, 2) := by decide +kernel
theorem dX7_stepWord_93 : decode cX7_stepWord 93 = .ok (.isub, 1) := by decide +kernel
theorem dX7_stepWord_94 : decode cX7_stepWord 94 = .ok (.iconst 1, 1) := by decide +kernel
theorem dX7_stepWord_95 : decode cX7_stepWord 95 = .ok (.iadd, 1) := by decide +kernel
theorem dX7_stepWord_96 : decode cX7_stepWord 96 = .ok (.putfield 90, 3) := by decide +kernel
theorem dX7_stepWord_99 : decode cX7_stepWord 99 = .ok (.iinc 1 1, 3) := by decide +kernel
theorem dX7_stepWord_102 : decode cX7_stepWord 102 = .ok (.aload_n 0, 1) := by decide +kernel
theorem dX7_stepWord_103 : decode cX7_stepWord 103 = .ok (.dup, 1) := by decide +kernel
theorem dX7_stepWord_104 : decode cX7_stepWord 104 = .ok (.getfield 72, 3) := by decide +kernel
theorem dX7_stepWord_107 : decode cX7_stepWord 107 = .ok (.iconst 1, 1) := by decide +kernel
theorem dX7_stepWord_108 : decode cX7_stepWord 108 = .ok (.iadd, 1) := by decide +kernel
theorem dX7_stepWord_109 : decode cX7_stepWord 109 = .ok (.putfield 72, 3) := by decide +kernel
theorem dX7_stepWord_112 : decode cX7_stepWord 112 = .ok (.goto (-105), 3) := by decide +kernel
theorem dX7_stepWord_115 : decode cX7_stepWord 115 = .ok (.iload_n 1, 1) := by decide +kernel
theorem dX7_stepWord_116 : decode cX7_stepWord 116 = .ok (.istore_n 2, 1) := by decide +kernel
theorem dX7_stepWord_117 : decode cX7_stepWord 117 = .ok (.iload_n 2, 1) := by decide +kernel
theorem dX7_stepWord_118 : decode cX7_stepWord 118 = .ok (.bipush 6, 2) := by decide +kernel
theorem dX7_stepWord_120 : decode cX7_stepWord 120 = .ok (.if_icmp .ge 20, 3) := by decide +kernel
theorem dX7_stepWord_123 : decode cX7_stepWord 123 = .ok (.aload_n 0, 1) := by decide +kernel
theorem dX7_stepWord_124 : decode cX7_stepWord 124 = .ok (.dup, 1) := by decide +kernel
theorem dX7_stepWord_125 : decode cX7_stepWord 125 = .ok (.getfield 90, 3) := by decide +kernel
theorem dX7_stepWord_128 : decode cX7_stepWord 128 = .ok (.bipush 27, 2) := by decide +kernel
theorem dX7_stepWord_130 : decode cX7_stepWord 130 = .ok (.imul, 1) := by decide +kernel
theorem dX7_stepWord_131 : decode cX7_stepWord 131 = .ok (.putfield 90, 3) := by decide +kernel
theorem dX7_stepWord_134 : decode cX7_stepWord 134 = .ok (.iinc 2 1, 3) := by decide +kernel
theorem dX7_stepWord_137 : decode cX7_stepWord 137 = .ok (.goto (-20), 3) := by decide +kernel
theorem dX7_stepWord_140 : decode cX7_stepWord 140 = .ok (.iconst 0, 1) := by decide +kernel
theorem dX7_stepWord_141 : decode cX7_stepWord 141 = .ok (.istore_n 2, 1) := by decide +kernel
theorem dX7_stepWord_142 : decode cX7_stepWord 142 = .ok (.iload_n 2, 1) := by decide +kernel
theorem dX7_stepWord_143 : decode cX7_stepWord 143 = .ok (.aload_n 0, 1) := by decide +kernel
theorem dX7_stepWord_144 : decode cX7_stepWord 144 = .ok (.getfield 37, 3) := by decide +kernel
theorem dX7_stepWord_147 : decode cX7_stepWord 147 = .ok (.arraylength, 1) := by decide +kernel
theorem dX7_stepWord_148 : decode cX7_stepWord 148 = .ok (.if_icmp .ge 27, 3) := by decide +kernel
theorem dX7_stepWord_151 : decode cX7_stepWord 151 = .ok (.aload_n 0, 1) := by decide +kernel
theorem dX7_stepWord_152 : decode cX7_stepWord 152 = .ok (.getfield 37, 3) := by decide +kernel
theorem dX7_stepWord_155 : decode cX7_stepWord 155 = .ok (.iload_n 2, 1) := by decide +kernel
theorem dX7_stepWord_156 : decode cX7_stepWord 156 = .ok (.iaload, 1) := by decide +kernel
theorem dX7_stepWord_157 : decode cX7_stepWord 157 = .ok (.aload_n 0, 1) := by decide +kernel
theorem dX7_stepWord_158 : decode cX7_stepWord 158 = .ok (.getfield 90, 3) := by decide +kernel
theorem dX7_stepWord_161 : decode cX7_stepWord 161 = .ok (.if_icmp .ne 8, 3) := by decide +kernel
theorem dX7_stepWord_164 : decode cX7_stepWord 164 = .ok (.aload_n 0, 1) := by decide +kernel
theorem dX7_stepWord_165 : decode cX7_stepWord 165 = .ok (.iload_n 2, 1) := by decide +kernel
theorem dX7_stepWord_166 : decode cX7_stepWord 166 = .ok (.putfield 87, 3) := by decide +kernel
theorem dX7_stepWord_169 : decode cX7_stepWord 169 = .ok (.iinc 2 1, 3) := by decide +kernel
theorem dX7_stepWord_172 : decode cX7_stepWord 172 = .ok (.goto (-30), 3) := by decide +kernel
theorem dX7_stepWord_175 : decode cX7_stepWord 175 = .ok (.return_, 1) := by decide +kernel
theorem dX7_stepNumber_0 : decode cX7_stepNumber 0 = .ok (.aload_n 0, 1) := by decide +kernel
theorem dX7_stepNumber_1 : decode cX7_stepNumber 1 = .ok (.iconst 2, 1) := by decide +kernel
theorem dX7_stepNumber_2 : decode cX7_stepNumber 2 = .ok (.putfield 75, 3) := by decide +kernel
theorem dX7_stepNumber_5 : decode cX7_stepNumber 5 = .ok (.iconst 0, 1) := by decide +kernel
theorem dX7_stepNumber_6 : decode cX7_stepNumber 6 = .ok (.istore_n 1, 1) := by decide +kernel
theorem dX7_stepNumber_7 : decode cX7_stepNumber 7 = .ok (.aload_n 0, 1) := by decide +kernel
theorem dX7_stepNumber_8 : decode cX7_stepNumber 8 = .ok (.getfield 72, 3) := by decide +kernel
theorem dX7_stepNumber_11 : decode cX7_stepNumber 11 = .ok (.ifCond .lt 101, 3) := by decide +kernel
theorem dX7_stepNumber_14 : decode cX7_stepNumber 14 = .ok (.aload_n 0, 1) := by decide +kernel
theorem dX7_stepNumber_15 : decode cX7_stepNumber 15 = .ok (.getfield 72, 3) := by decide +kernel
theorem dX7_stepNumber_18 : decode cX7_stepNumber 18 = .ok (.aload_n 0, 1) := by decide +kernel
theorem dX7_stepNumber_19 : decode cX7_stepNumber 19 = .ok (.getfield 71, 3) := by decide +kernel
theorem dX7_stepNumber_22 : decode cX7_stepNumber 22 = .ok (.if_icmp .ge 90, 3) := by decide +kernel
theorem dX7_stepNumber_25 : decode cX7_stepNumber 25 = .ok (.aload_n 0, 1) := by decide +kernel
theorem dX7_stepNumber_26 : decode cX7_stepNumber 26 = .ok (.getfield 41, 3) := by decide +kernel
theorem dX7_stepNumber_29 : decode cX7_stepNumber 29 = .ok (.aload_n 0, 1) := by decide +kernel
theorem dX7_stepNumber_30 : decode cX7_stepNumber 30 = .ok (.getfield 72, 3) := by decide +kernel
theorem dX7_stepNumber_33 : decode cX7_stepNumber 33 = .ok (.iaload, 1) := by decide +kernel
theorem dX7_stepNumber_34 : decode cX7_stepNumber 34 = .ok (.bipush 48, 2) := by decide +kernel
theorem dX7_stepNumber_36 : decode cX7_stepNumber 36 = .ok (.if_icmp .lt 76, 3) := by decide +kernel
theorem dX7_stepNumber_39 : decode cX7_stepNumber 39 = .ok (.aload_n 0, 1) := by decide +kernel
theorem dX7_stepNumber_40 : decode cX7_stepNumber 40 = .ok (.getfield 41, 3) := by decide +kernel
theorem dX7_stepNumber_43 : decode cX7_stepNumber 43 = .ok (.aload_n 0, 1) := by decide +kernel
theorem dX7_stepNumber_44 : decode cX7_stepNumber 44 = .ok (.getfield 72, 3) := by decide +kernel
theorem dX7_stepNumber_47 : decode cX7_stepNumber 47 = .ok (.iaload, 1) := by decide +kernel
theorem dX7_stepNumber_48 : decode cX7_stepNumber 48 = .ok (.bipush 57, 2) := by decide +kernel
theorem dX7_stepNumber_50 : decode cX7_stepNumber 50 = .ok (.if_icmp .gt 62, 3) := by decide +kernel
theorem dX7_stepNumber_53 : decode cX7_stepNumber 53 = .ok (.iload_n 1, 1) := by decide +kernel
theorem dX7_stepNumber_54 : decode cX7_stepNumber 54 = .ok (.iconst 4, 1) := by decide +kernel
theorem dX7_stepNumber_55 : decode cX7_stepNumber 55 = .ok (.if_icmp .ne 17, 3) := by decide +kernel
theorem dX7_stepNumber_58 : decode cX7_stepNumber 58 = .ok (.aload_n 0, 1) := by decide +kernel
theorem dX7_stepNumber_59 : decode cX7_stepNumber 59 = .ok (.iconst 4, 1) := by decide +kernel
theorem dX7_stepNumber_60 : decode cX7_stepNumber 60 = .ok (.putfield 75, 3) := by decide +kernel
theorem dX7_stepNumber_63 : decode cX7_stepNumber 63 = .ok (.aload_n 0, 1) := by decide +kernel
theorem dX7_stepNumber_64 : decode cX7_stepNumber 64 = .ok (.aload_n 0, 1) := by decide +kernel
theorem dX7_stepNumber_65 : decode cX7_stepNumber 65 = .ok (.getfield 72, 3) := by decide +kernel
theorem dX7_stepNumber_68 : decode cX7_stepNumber 68 = .ok (.putfield 84, 3) := by decide +kernel
theorem dX7_stepNumber_71 : decode cX7_stepNumber 71 = .ok (.return_, 1) := by decide +kernel
theorem dX7_stepNumber_72 : decode cX7_stepNumber 72 = .ok (.aload_n 0, 1) := by decide +kernel
theorem dX7_stepNumber_73 : decode cX7_stepNumber 73 = .ok (.aload_n 0, 1) := by decide +kernel
theorem dX7_stepNumber_74 : decode cX7_stepNumber 74 = .ok (.getfield 90, 3) := by decide +kernel
theorem dX7_stepNumber_77 : decode cX7_stepNumber 77 = .ok (.bipush 10, 2) := by decide +kernel
theorem dX7_stepNumber_79 : decode cX7_stepNumber 79 = .ok (.imul, 1) := by decide +kernel
theorem dX7_stepNumber_80 : decode cX7_stepNumber 80 = .ok (.aload_n 0, 1) := by decide +kernel
theorem dX7_stepNumber_81 : decode cX7_stepNumber 81 = .ok (.getfield 41, 3) := by decide +kernel
theorem dX7_stepNumber_84 : decode cX7_stepNumber 84 = .ok (.aload_n 0, 1) := by decide +kernel
theorem dX7_stepNumber_85 : decode cX7_stepNumber 85 = .ok (.getfield 72, 3) := by decide +kernel
theorem dX7_stepNumber_88 : decode cX7_stepNumber 88 = .ok (.iaload, 1) := by decide +kernel
theorem dX7_stepNumber_89 : decode cX7_stepNumber 89 = .ok (.iadd, 1) := by decide +kernel
theorem dX7_stepNumber_90 : decode cX7_stepNumber 90 = .ok (.bipush 48, 2) := by decide +kernel
theorem dX7_stepNumber_92 : decode cX7_stepNumber 92 = .ok (.isub, 1) := by decide +kernel
theorem dX7_stepNumber_93 : decode cX7_stepNumber 93 = .ok (.putfield 90, 3) := by decide +kernel
theorem dX7_stepNumber_96 : decode cX7_stepNumber 96 = .ok (.iinc 1 1, 3) := by decide +kernel
theorem dX7_stepNumber_99 : decode cX7_stepNumber 99 = .ok (.aload_n 0, 1) := by decide +kernel
theorem dX7_stepNumber_100 : decode cX7_stepNumber 100 = .ok (.dup, 1) := by decide +kernel
theorem dX7_stepNumber_101 : decode cX7_stepNumber 101 = .ok (.getfield 72, 3) := by decide +kernel
theorem dX7_stepNumber_104 : decode cX7_stepNumber 104 = .ok (.iconst 1, 1) := by decide +kernel
theorem dX7_stepNumber_105 : decode cX7_stepNumber 105 = .ok (.iadd, 1) := by decide +kernel
theorem dX7_stepNumber_106 : decode cX7_stepNumber 106 = .ok (.putfield 72, 3) := by decide +kernel
theorem dX7_stepNumber_109 : decode cX7_stepNumber 109 = .ok (.goto (-102), 3) := by decide +kernel
theorem dX7_stepNumber_112 : decode cX7_stepNumber 112 = .ok (.return_, 1) := by decide +kernel
theorem dX7_isName_0 : decode cX7_isName 0 = .ok (.aload_n 0, 1) := by decide +kernel
theorem dX7_isName_1 : decode cX7_isName 1 = .ok (.getfield 75, 3) := by decide +kernel
theorem dX7_isName_4 : decode cX7_isName 4 = .ok (.iconst 1, 1) := by decide +kernel
theorem dX7_isName_5 : decode cX7_isName 5 = .ok (.if_icmp .ne 15, 3) := by decide +kernel
theorem dX7_isName_8 : decode cX7_isName 8 = .ok (.aload_n 0, 1) := by decide +kernel
theorem dX7_isName_9 : decode cX7_isName 9 = .ok (.getfield 87, 3) := by decide +kernel
theorem dX7_isName_12 : decode cX7_isName 12 = .ok (.iconst (-1), 1) := by decide +kernel
theorem dX7_isName_13 : decode cX7_isName 13 = .ok (.if_icmp .ne 7, 3) := by decide +kernel
theorem dX7_isName_16 : decode cX7_isName 16 = .ok (.iconst 1, 1) := by decide +kernel
theorem dX7_isName_17 : decode cX7_isName 17 = .ok (.goto 4, 3) := by decide +kernel
theorem dX7_isName_20 : decode cX7_isName 20 = .ok (.iconst 0, 1) := by decide +kernel
theorem dX7_isName_21 : decode cX7_isName 21 = .ok (.ireturn, 1) := by decide +kernel
theorem dX7_isSign_0 : decode cX7_isSign 0 = .ok (.aload_n 0, 1) := by decide +kernel
theorem dX7_isSign_1 : decode cX7_isSign 1 = .ok (.getfield 75, 3) := by decide +kernel
theorem dX7_isSign_4 : decode cX7_isSign 4 = .ok (.iconst 3, 1) := by decide +kernel
theorem dX7_isSign_5 : decode cX7_isSign 5 = .ok (.if_icmp .ne 15, 3) := by decide +kernel
theorem dX7_isSign_8 : decode cX7_isSign 8 = .ok (.aload_n 0, 1) := by decide +kernel
theorem dX7_isSign_9 : decode cX7_isSign 9 = .ok (.getfield 90, 3) := by decide +kernel
theorem dX7_isSign_12 : decode cX7_isSign 12 = .ok (.iload_n 1, 1) := by decide +kernel
theorem dX7_isSign_13 : decode cX7_isSign 13 = .ok (.if_icmp .ne 7, 3) := by decide +kernel
theorem dX7_isSign_16 : decode cX7_isSign 16 = .ok (.iconst 1, 1) := by decide +kernel
theorem dX7_isSign_17 : decode cX7_isSign 17 = .ok (.goto 4, 3) := by decide +kernel
theorem dX7_isSign_20 : decode cX7_isSign 20 = .ok (.iconst 0, 1) := by decide +kernel
theorem dX7_isSign_21 : decode cX7_isSign 21 = .ok (.ireturn, 1) := by decide +kernel
theorem dX8_init_0 : decode cX8_init 0 = .ok (.aload_n 0, 1) := by decide +kernel
theorem dX8_init_1 : decode cX8_init 1 = .ok (.invokespecial 3, 3) := by decide +kernel
theorem dX8_init_4 : decode cX8_init 4 = .ok (.aload_n 0, 1) := by decide +kernel
theorem dX8_init_5 : decode cX8_init 5 = .ok (.bipush 16, 2) := by decide +kernel
theorem dX8_init_7 : decode cX8_init 7 = .ok (.newarray .int, 2) := by decide +kernel
theorem dX8_init_9 : decode cX8_init 9 = .ok (.putfield 9, 3) := by decide +kernel
theorem dX8_init_12 : decode cX8_init 12 = .ok (.aload_n 0, 1) := by decide +kernel
theorem dX8_init_13 : decode cX8_init 13 = .ok (.bipush 16, 2) := by decide +kernel
theorem dX8_init_15 : decode cX8_init 15 = .ok (.newarray .int, 2) := by decide +kernel
theorem dX8_init_17 : decode cX8_init 17 = .ok (.putfield 15, 3) := by decide +kernel
theorem dX8_init_20 : decode cX8_init 20 = .ok (.aload_n 0, 1) := by decide +kernel
theorem dX8_init_21 : decode cX8_init 21 = .ok (.sipush 256, 3) := by decide +kernel
theorem dX8_init_24 : decode cX8_init 24 = .ok (.newarray .int, 2) := by decide +kernel
theorem dX8_init_26 : decode cX8_init 26 = .ok (.putfield 18, 3) := by decide +kernel
theorem dX8_init_29 : decode cX8_init 29 = .ok (.aload_n 0, 1) := by decide +kernel
theorem dX8_init_30 : decode cX8_init 30 = .ok (.bipush 13, 2) := by decide +kernel
theorem dX8_init_32 : decode cX8_init 32 = .ok (.newarray .int, 2) := by decide +kernel
theorem dX8_init_34 : decode cX8_init 34 = .ok (.putfield 21, 3) := by decide +kernel
theorem dX8_init_37 : decode cX8_init 37 = .ok (.return_, 1) := by decide +kernel
theorem dX8_read_0 : decode cX8_read 0 = .ok (.aload_n 1, 1) := by decide +kernel
theorem dX8_read_1 : decode cX8_read 1 = .ok (.getfield 24, 3) := by decide +kernel
theorem dX8_read_4 : decode cX8_read 4 = .ok (.iconst 3, 1) := by decide +kernel
theorem dX8_read_5 : decode cX8_read 5 = .ok (.idiv, 1) := by decide +kernel
theorem dX8_read_6 : decode cX8_read 6 = .ok (.istore 4, 2) := by decide +kernel
theorem dX8_read_8 : decode cX8_read 8 = .ok (.iload 4, 2) := by decide +kernel
theorem dX8_read_10 : decode cX8_read 10 = .ok (.iconst 1, 1) := by decide +kernel
theorem dX8_read_11 : decode cX8_read 11 = .ok (.if_icmp .lt 21, 3) := by decide +kernel
theorem dX8_read_14 : decode cX8_read 14 = .ok (.iload 4, 2) := by decide +kernel
theorem dX8_read_16 : decode cX8_read 16 = .ok (.bipush 16, 2) := by decide +kernel
theorem dX8_read_18 : decode cX8_read 18 = .ok (.if_icmp .gt 14, 3) := by decide +kernel
theorem dX8_read_21 : decode cX8_read 21 = .ok (.aload_n 1, 1) := by decide +kernel
theorem dX8_read_22 : decode cX8_read 22 = .ok (.getfield 24, 3) := by decide +kernel
theorem dX8_read_25 : decode cX8_read 25 = .ok (.iconst 3, 1) := by decide +kernel
theorem dX8_read_26 : decode cX8_read 26 = .ok (.iload 4, 2) := by decide +kernel
theorem dX8_read_28 : decode cX8_read 28 = .ok (.imul, 1) := by decide +kernel
theorem dX8_read_29 : decode cX8_read 29 = .ok (.if_icmp .eq 5, 3) := by decide +kernel
theorem dX8_read_32 : decode cX8_read 32 = .ok (.iconst 0, 1) := by decide +kernel
theorem dX8_read_33 : decode cX8_read 33 = .ok (.ireturn, 1) := by decide +kernel
theorem dX8_read_34 : decode cX8_read 34 = .ok (.iconst 0, 1) := by decide +kernel
theorem dX8_read_35 : decode cX8_read 35 = .ok (.istore 5, 2) := by decide +kernel
theorem dX8_read_37 : decode cX8_read 37 = .ok (.iload 5, 2) := by decide +kernel
theorem dX8_read_39 : decode cX8_read 39 = .ok (.iload 4, 2) := by decide +kernel
theorem dX8_read_41 : decode cX8_read 41 = .ok (.if_icmp .ge 53, 3) := by decide +kernel
theorem dX8_read_44 : decode cX8_read 44 = .ok (.aload_n 1, 1) := by decide +kernel
theorem dX8_read_45 : decode cX8_read 45 = .ok (.iconst 3, 1) := by decide +kernel
theorem dX8_read_46 : decode cX8_read 46 = .ok (.iload 5, 2) := by decide +kernel
theorem dX8_read_48 : decode cX8_read 48 = .ok (.imul, 1) := by decide +kernel
theorem dX8_read_49 : decode cX8_read 49 = .ok (.iconst 2, 1) := by decide +kernel
theorem dX8_read_50 : decode cX8_read 50 = .ok (.iadd, 1) := by decide +kernel
theorem dX8_read_51 : decode cX8_read 51 = .ok (.invokevirtual 30, 3) := by decide +kernel
theorem dX8_read_54 : decode cX8_read 54 = .ok (.istore 6, 2) := by decide +kernel
theorem dX8_read_56 : decode cX8_read 56 = .ok (.aload_n 2, 1) := by decide +kernel
theorem dX8_read_57 : decode cX8_read 57 = .ok (.aload_n 1, 1) := by decide +kernel
theorem dX8_read_58 : decode cX8_read 58 = .ok (.iload 5, 2) := by decide +kernel
theorem dX8_read_60 : decode cX8_read 60 = .ok (.invokestatic 34, 3) := by decide +kernel
theorem dX8_read_63 : decode cX8_read 63 = .ok (.invokevirtual 38, 3) := by decide +kernel
theorem dX8_read_66 : decode cX8_read 66 = .ok (.ifCond .eq 20, 3) := by decide +kernel
theorem dX8_read_69 : decode cX8_read 69 = .ok (.iload 6, 2) := by decide +kernel
theorem dX8_read_71 : decode cX8_read 71 = .ok (.sipush 255, 3) := by decide +kernel
theorem dX8_read_74 : decode cX8_read 74 = .ok (.if_icmp .eq 14, 3) := by decide +kernel
theorem dX8_read_77 : decode cX8_read 77 = .ok (.aload_n 3, 1) := by decide +kernel
theorem dX8_read_78 : decode cX8_read 78 = .ok (.iload 6, 2) := by decide +kernel
theorem dX8_read_80 : decode cX8_read 80 = .ok (.invokevirtual 44, 3) := by decide +kernel
theorem dX8_read_83 : decode cX8_read 83 = .ok (.ifCond .ne 5, 3) := by decide +kernel
theorem dX8_read_86 : decode cX8_read 86 = .ok (.iconst 0, 1) := by decide +kernel
theorem dX8_read_87 : decode cX8_read 87 = .ok (.ireturn, 1) := by decide +kernel
theorem dX8_read_88 : decode cX8_read 88 = .ok (.iinc 5 1, 3) := by decide +kernel
theorem dX8_read_91 : decode cX8_read 91 = .ok (.goto (-54), 3) := by decide +kernel
theorem dX8_read_94 : decode cX8_read 94 = .ok (.aload_n 0, 1) := by decide +kernel
theorem dX8_read_95 : decode cX8_read 95 = .ok (.iload 4, 2) := by decide +kernel
theorem dX8_read_97 : decode cX8_read 97 = .ok (.putfield 49, 3) := by decide +kernel
theorem dX8_read_100 : decode cX8_read 100 = .ok (.iconst 0, 1) := by decide +kernel
theorem dX8_read_101 : decode cX8_read 101 = .ok (.istore 5, 2) := by decide +kernel
theorem dX8_read_103 : decode cX8_read 103 = .ok (.iload 5, 2) := by decide +kernel
theorem dX8_read_105 : decode cX8_read 105 = .ok (.iload 4, 2) := by decide +kernel
theorem dX8_read_107 : decode cX8_read 107 = .ok (.if_icmp .ge 43, 3) := by decide +kernel
theorem dX8_read_110 : decode cX8_read 110 = .ok (.aload_n 0, 1) := by decide +kernel
theorem dX8_read_111 : decode cX8_read 111 = .ok (.getfield 9, 3) := by decide +kernel
theorem dX8_read_114 : decode cX8_read 114 = .ok (.iload 5, 2) := by decide +kernel
theorem dX8_read_116 : decode cX8_read 116 = .ok (.aload_n 1, 1) := by decide +kernel
theorem dX8_read_117 : decode cX8_read 117 = .ok (.iload 5, 2) := by decide +kernel
theorem dX8_read_119 : decode cX8_read 119 = .ok (.invokestatic 34, 3) := by decide +kernel
theorem dX8_read_122 : decode cX8_read 122 = .ok (.iastore, 1) := by decide +kernel
theorem dX8_read_123 : decode cX8_read 123 = .ok (.aload_n 0, 1) := by decide +kernel
theorem dX8_read_124 : decode cX8_read 124 = .ok (.getfield 15, 3) := by decide +kernel
theorem dX8_read_127 : decode cX8_read 127 = .ok (.iload 5, 2) := by decide +kernel
theorem dX8_read_129 : decode cX8_read 129 = .ok (.aload_n 3, 1) := by decide +kernel
theorem dX8_read_130 : decode cX8_read 130 = .ok (.aload_n 1, 1) := by decide +kernel
theorem dX8_read_131 : decode cX8_read 131 = .ok (.iconst 3, 1) := by decide +kernel
theorem dX8_read_132 : decode cX8_read 132 = .ok (.iload 5, 2) := by decide +kernel
theorem dX8_read_134 : decode cX8_read 134 = .ok (.imul, 1) := by decide +kernel
theorem dX8_read_135 : decode cX8_read 135 = .ok (.iconst 2, 1) := by decide +kernel
theorem dX8_read_136 : decode cX8_read 136 = .ok (.iadd, 1) := by decide +kernel
theorem dX8_read_137 : decode cX8_read 137 = .ok (.invokevirtual 30, 3) := by decide +kernel
theorem dX8_read_140 : decode cX8_read 140 = .ok (.invokevirtual 52, 3) := by decide +kernel
theorem dX8_read_143 : decode cX8_read 143 = .ok (.iastore, 1) := by decide +kernel
theorem dX8_read_144 : decode cX8_read 144 = .ok (.iinc 5 1, 3) := by decide +kernel
theorem dX8_read_147 : decode cX8_read 147 = .ok (.goto (-44), 3) := by decide +kernel
theorem dX8_read_150 : decode cX8_read 150 = .ok (.iconst 1, 1) := by decide +kernel
theorem dX8_read_151 : decode cX8_read 151 = .ok (.ireturn, 1) := by decide +kernel
theorem dX8_rowOn_0 : decode cX8_rowOn 0 = .ok (.aload_n 0, 1) := by decide +kernel
theorem dX8_rowOn_1 : decode cX8_rowOn 1 = .ok (.iconst 3, 1) := by decide +kernel
theorem dX8_rowOn_2 : decode cX8_rowOn 2 = .ok (.iload_n 1, 1) := by decide +kernel
theorem dX8_rowOn_3 : decode cX8_rowOn 3 = .ok (.imul, 1) := by decide +kernel
theorem dX8_rowOn_4 : decode cX8_rowOn 4 = .ok (.invokevirtual 30, 3) := by decide +kernel
theorem dX8_rowOn_7 : decode cX8_rowOn 7 = .ok (.sipush 256, 3) := by decide +kernel
theorem dX8_rowOn_10 : decode cX8_rowOn 10 = .ok (.imul, 1) := by decide +kernel
theorem dX8_rowOn_11 : decode cX8_rowOn 11 = .ok (.aload_n 0, 1) := by decide +kernel
theorem dX8_rowOn_12 : decode cX8_rowOn 12 = .ok (.iconst 3, 1) := by decide +kernel
theorem dX8_rowOn_13 : decode cX8_rowOn 13 = .ok (.iload_n 1, 1) := by decide +kernel
theorem dX8_rowOn_14 : decode cX8_rowOn 14 = .ok (.imul, 1) := by decide +kernel
theorem dX8_rowOn_15 : decode cX8_rowOn 15 = .ok (.iconst 1, 1) := by decide +kernel
theorem dX8_rowOn_16 : decode cX8_rowOn 16 = .ok (.iadd, 1) := by decide +kernel
theorem dX8_rowOn_17 : decode cX8_rowOn 17 = .ok (.invokevirtual 30, 3) := by decide +kernel
theorem dX8_rowOn_20 : decode cX8_rowOn 20 = .ok (.iadd, 1) := by decide +kernel
theorem dX8_rowOn_21 : decode cX8_rowOn 21 = .ok (.ireturn, 1) := by decide +kernel
theorem dX8_findSets_0 : decode cX8_findSets 0 = .ok (.aload_n 0, 1) := by decide +kernel
theorem dX8_findSets_1 : decode cX8_findSets 1 = .ok (.iconst 0, 1) := by decide +kernel
theorem dX8_findSets_2 : decode cX8_findSets 2 = .ok (.putfield 55, 3) := by decide +kernel
theorem dX8_findSets_5 : decode cX8_findSets 5 = .ok (.iconst 0, 1) := by decide +kernel
theorem dX8_findSets_6 : decode cX8_findSets 6 = .ok (.istore_n 3, 1) := by decide +kernel
theorem dX8_findSets_7 : decode cX8_findSets 7 = .ok (.iload_n 3, 1) := by decide +kernel
theorem dX8_findSets_8 : decode cX8_findSets 8 = .ok (.sipush 256, 3) := by decide +kernel
theorem dX8_findSets_11 : decode cX8_findSets 11 = .ok (.if_icmp .ge 39, 3) := by decide +kernel
theorem dX8_findSets_14 : decode cX8_findSets 14 = .ok (.aload_n 0, 1) := by decide +kernel
theorem dX8_findSets_15 : decode cX8_findSets 15 = .ok (.aload_n 1, 1) := by decide +kernel
theorem dX8_findSets_16 : decode cX8_findSets 16 = .ok (.aload_n 2, 1) := by decide +kernel
theorem dX8_findSets_17 : decode cX8_findSets 17 = .ok (.iload_n 3, 1) := by decide +kernel
theorem dX8_findSets_18 : decode cX8_findSets 18 = .ok (.invokevirtual 58, 3) := by decide +kernel
theorem dX8_findSets_21 : decode cX8_findSets 21 = .ok (.ifCond .eq 23, 3) := by decide +kernel
theorem dX8_findSets_24 : decode cX8_findSets 24 = .ok (.aload_n 0, 1) := by decide +kernel
theorem dX8_findSets_25 : decode cX8_findSets 25 = .ok (.getfield 18, 3) := by decide +kernel
theorem dX8_findSets_28 : decode cX8_findSets 28 = .ok (.aload_n 0, 1) := by decide +kernel
theorem dX8_findSets_29 : decode cX8_findSets 29 = .ok (.getfield 55, 3) := by decide +kernel
theorem dX8_findSets_32 : decode cX8_findSets 32 = .ok (.iload_n 3, 1) := by decide +kernel
theorem dX8_findSets_33 : decode cX8_findSets 33 = .ok (.iastore, 1) := by decide +kernel
theorem dX8_findSets_34 : decode cX8_findSets 34 = .ok (.aload_n 0, 1) := by decide +kernel
theorem dX8_findSets_35 : decode cX8_findSets 35 = .ok (.dup, 1) := by decide +kernel
theorem dX8_findSets_36 : decode cX8_findSets 36 = .ok (.getfield 55, 3) := by decide +kernel
theorem dX8_findSets_39 : decode cX8_findSets 39 = .ok (.iconst 1, 1) := by decide +kernel
theorem dX8_findSets_40 : decode cX8_findSets 40 = .ok (.iadd, 1) := by decide +kernel
theorem dX8_findSets_41 : decode cX8_findSets 41 = .ok (.putfield 55, 3) := by decide +kernel
theorem dX8_findSets_44 : decode cX8_findSets 44 = .ok (.iinc 3 1, 3) := by decide +kernel
theorem dX8_findSets_47 : decode cX8_findSets 47 = .ok (.goto (-40), 3) := by decide +kernel
theorem dX8_findSets_50 : decode cX8_findSets 50 = .ok (.return_, 1) := by decide +kernel
theorem dX8_agrees_0 : decode cX8_agrees 0 = .ok (.iconst 0, 1) := by decide +kernel
theorem dX8_agrees_1 : decode cX8_agrees 1 = .ok (.istore 4, 2) := by decide +kernel
theorem dX8_agrees_3 : decode cX8_agrees 3 = .ok (.iload 4, 2) := by decide +kernel
theorem dX8_agrees_5 : decode cX8_agrees 5 = .ok (.aload_n 0, 1) := by decide +kernel
theorem dX8_agrees_6 : decode cX8_agrees 6 = .ok (.getfield 49, 3) := by decide +kernel
theorem dX8_agrees_9 : decode cX8_agrees 9 = .ok (.if_icmp .ge 46, 3) := by decide +kernel
theorem dX8_agrees_12 : decode cX8_agrees 12 = .ok (.aload_n 2, 1) := by decide +kernel
theorem dX8_agrees_13 : decode cX8_agrees 13 = .ok (.aload_n 1, 1) := by decide +kernel
theorem dX8_agrees_14 : decode cX8_agrees 14 = .ok (.aload_n 1, 1) := by decide +kernel
theorem dX8_agrees_15 : decode cX8_agrees 15 = .ok (.aload_n 0, 1) := by decide +kernel
theorem dX8_agrees_16 : decode cX8_agrees 16 = .ok (.getfield 9, 3) := by decide +kernel
theorem dX8_agrees_19 : decode cX8_agrees 19 = .ok (.iload 4, 2) := by decide +kernel
theorem dX8_agrees_21 : decode cX8_agrees 21 = .ok (.iaload, 1) := by decide +kernel
theorem dX8_agrees_22 : decode cX8_agrees 22 = .ok (.invokevirtual 62, 3) := by decide +kernel
theorem dX8_agrees_25 : decode cX8_agrees 25 = .ok (.iload_n 3, 1) := by decide +kernel
theorem dX8_agrees_26 : decode cX8_agrees 26 = .ok (.invokevirtual 65, 3) := by decide +kernel
theorem dX8_agrees_29 : decode cX8_agrees 29 = .ok (.istore 5, 2) := by decide +kernel
theorem dX8_agrees_31 : decode cX8_agrees 31 = .ok (.aload_n 2, 1) := by decide +kernel
theorem dX8_agrees_32 : decode cX8_agrees 32 = .ok (.iload 5, 2) := by decide +kernel
theorem dX8_agrees_34 : decode cX8_agrees 34 = .ok (.invokevirtual 52, 3) := by decide +kernel
theorem dX8_agrees_37 : decode cX8_agrees 37 = .ok (.aload_n 0, 1) := by decide +kernel
theorem dX8_agrees_38 : decode cX8_agrees 38 = .ok (.getfield 15, 3) := by decide +kernel
theorem dX8_agrees_41 : decode cX8_agrees 41 = .ok (.iload 4, 2) := by decide +kernel
theorem dX8_agrees_43 : decode cX8_agrees 43 = .ok (.iaload, 1) := by decide +kernel
theorem dX8_agrees_44 : decode cX8_agrees 44 = .ok (.if_icmp .eq 5, 3) := by decide +kernel
theorem dX8_agrees_47 : decode cX8_agrees 47 = .ok (.iconst 0, 1) := by decide +kernel
theorem dX8_agrees_48 : decode cX8_agrees 48 = .ok (.ireturn, 1) := by decide +kernel
theorem dX8_agrees_49 : decode cX8_agrees 49 = .ok (.iinc 4 1, 3) := by decide +kernel
theorem dX8_agrees_52 : decode cX8_agrees 52 = .ok (.goto (-49), 3) := by decide +kernel
theorem dX8_agrees_55 : decode cX8_agrees 55 = .ok (.iconst 1, 1) := by decide +kernel
theorem dX8_agrees_56 : decode cX8_agrees 56 = .ok (.ireturn, 1) := by decide +kernel
theorem dX8_mostLeft_0 : decode cX8_mostLeft 0 = .ok (.iconst 0, 1) := by decide +kernel
theorem dX8_mostLeft_1 : decode cX8_mostLeft 1 = .ok (.istore 4, 2) := by decide +kernel
theorem dX8_mostLeft_3 : decode cX8_mostLeft 3 = .ok (.iload 4, 2) := by decide +kernel
theorem dX8_mostLeft_5 : decode cX8_mostLeft 5 = .ok (.bipush 12, 2) := by decide +kernel
theorem dX8_mostLeft_7 : decode cX8_mostLeft 7 = .ok (.if_icmp .gt 17, 3) := by decide +kernel
theorem dX8_mostLeft_10 : decode cX8_mostLeft 10 = .ok (.aload_n 0, 1) := by decide +kernel
theorem dX8_mostLeft_11 : decode cX8_mostLeft 11 = .ok (.getfield 21, 3) := by decide +kernel
theorem dX8_mostLeft_14 : decode cX8_mostLeft 14 = .ok (.iload 4, 2) := by decide +kernel
theorem dX8_mostLeft_16 : decode cX8_mostLeft 16 = .ok (.iconst 0, 1) := by decide +kernel
theorem dX8_mostLeft_17 : decode cX8_mostLeft 17 = .ok (.iastore, 1) := by decide +kernel
theorem dX8_mostLeft_18 : decode cX8_mostLeft 18 = .ok (.iinc 4 1, 3) := by decide +kernel
theorem dX8_mostLeft_21 : decode cX8_mostLeft 21 = .ok (.goto (-18), 3) := by decide +kernel
theorem dX8_mostLeft_24 : decode cX8_mostLeft 24 = .ok (.iconst 0, 1) := by decide +kernel
theorem dX8_mostLeft_25 : decode cX8_mostLeft 25 = .ok (.istore 4, 2) := by decide +kernel
theorem dX8_mostLeft_27 : decode cX8_mostLeft 27 = .ok (.iconst 0, 1) := by decide +kernel
theorem dX8_mostLeft_28 : decode cX8_mostLeft 28 = .ok (.istore 5, 2) := by decide +kernel
theorem dX8_mostLeft_30 : decode cX8_mostLeft 30 = .ok (.iload 5, 2) := by decide +kernel
theorem dX8_mostLeft_32 : decode cX8_mostLeft 32 = .ok (.aload_n 0, 1) := by decide +kernel
theorem dX8_mostLeft_33 : decode cX8_mostLeft 33 = .ok (.getfield 55, 3) := by decide +kernel
theorem dX8_mostLeft_36 : decode cX8_mostLeft 36 = .ok (.if_icmp .ge 71, 3) := by decide +kernel
theorem dX8_mostLeft_39 : decode cX8_mostLeft 39 = .ok (.iload 5, 2) := by decide +kernel
theorem dX8_mostLeft_41 : decode cX8_mostLeft 41 = .ok (.sipush 256, 3) := by decide +kernel
theorem dX8_mostLeft_44 : decode cX8_mostLeft 44 = .ok (.if_icmp .ge 63, 3) := by decide +kernel
theorem dX8_mostLeft_47 : decode cX8_mostLeft 47 = .ok (.aload_n 2, 1) := by decide +kernel
theorem dX8_mostLeft_48 : decode cX8_mostLeft 48 = .ok (.aload_n 1, 1) := by decide +kernel
theorem dX8_mostLeft_49 : decode cX8_mostLeft 49 = .ok (.iload_n 3, 1) := by decide +kernel
theorem dX8_mostLeft_50 : decode cX8_mostLeft 50 = .ok (.aload_n 0, 1) := by decide +kernel
theorem dX8_mostLeft_51 : decode cX8_mostLeft 51 = .ok (.getfield 18, 3) := by decide +kernel
theorem dX8_mostLeft_54 : decode cX8_mostLeft 54 = .ok (.iload 5, 2) := by decide +kernel
theorem dX8_mostLeft_56 : decode cX8_mostLeft 56 = .ok (.iaload, 1) := by decide +kernel
theorem dX8_mostLeft_57 : decode cX8_mostLeft 57 = .ok (.invokevirtual 65, 3) := by decide +kernel
theorem dX8_mostLeft_60 : decode cX8_mostLeft 60 = .ok (.iconst 1, 1) := by decide +kernel
