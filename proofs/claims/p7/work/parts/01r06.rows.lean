section
theorem dX7_step_171 : decode cX7_step 171 = .ok (.iload_n 3, 1) := by decide +kernel
theorem dX7_step_172 : decode cX7_step 172 = .ok (.bipush 57, 2) := by decide +kernel
theorem dX7_step_174 : decode cX7_step 174 = .ok (.if_icmp .gt 7, 3) := by decide +kernel
theorem dX7_step_177 : decode cX7_step 177 = .ok (.iconst 1, 1) := by decide +kernel
theorem dX7_step_178 : decode cX7_step 178 = .ok (.goto 4, 3) := by decide +kernel
theorem dX7_step_181 : decode cX7_step 181 = .ok (.iconst 0, 1) := by decide +kernel
theorem dX7_step_182 : decode cX7_step 182 = .ok (.istore 5, 2) := by decide +kernel
theorem dX7_step_184 : decode cX7_step 184 = .ok (.iload 4, 2) := by decide +kernel
theorem dX7_step_186 : decode cX7_step 186 = .ok (.ifCond .ne 31, 3) := by decide +kernel
theorem dX7_step_189 : decode cX7_step 189 = .ok (.iload 5, 2) := by decide +kernel
theorem dX7_step_191 : decode cX7_step 191 = .ok (.ifCond .ne 26, 3) := by decide +kernel
theorem dX7_step_194 : decode cX7_step 194 = .ok (.aload_n 0, 1) := by decide +kernel
theorem dX7_step_195 : decode cX7_step 195 = .ok (.iconst 3, 1) := by decide +kernel
theorem dX7_step_196 : decode cX7_step 196 = .ok (.putfield 75, 3) := by decide +kernel
theorem dX7_step_199 : decode cX7_step 199 = .ok (.aload_n 0, 1) := by decide +kernel
theorem dX7_step_200 : decode cX7_step 200 = .ok (.iload_n 3, 1) := by decide +kernel
theorem dX7_step_201 : decode cX7_step 201 = .ok (.putfield 90, 3) := by decide +kernel
theorem dX7_step_204 : decode cX7_step 204 = .ok (.aload_n 0, 1) := by decide +kernel
theorem dX7_step_205 : decode cX7_step 205 = .ok (.dup, 1) := by decide +kernel
theorem dX7_step_206 : decode cX7_step 206 = .ok (.getfield 72, 3) := by decide +kernel
theorem dX7_step_209 : decode cX7_step 209 = .ok (.iconst 1, 1) := by decide +kernel
theorem dX7_step_210 : decode cX7_step 210 = .ok (.iadd, 1) := by decide +kernel
theorem dX7_step_211 : decode cX7_step 211 = .ok (.putfield 72, 3) := by decide +kernel
theorem dX7_step_214 : decode cX7_step 214 = .ok (.goto 39, 3) := by decide +kernel
theorem dX7_step_217 : decode cX7_step 217 = .ok (.iload_n 1, 1) := by decide +kernel
theorem dX7_step_218 : decode cX7_step 218 = .ok (.ifCond .eq 19, 3) := by decide +kernel
theorem dX7_step_221 : decode cX7_step 221 = .ok (.iload_n 2, 1) := by decide +kernel
theorem dX7_step_222 : decode cX7_step 222 = .ok (.aload_n 0, 1) := by decide +kernel
theorem dX7_step_223 : decode cX7_step 223 = .ok (.getfield 81, 3) := by decide +kernel
theorem dX7_step_226 : decode cX7_step 226 = .ok (.if_icmp .ne 11, 3) := by decide +kernel
theorem dX7_step_229 : decode cX7_step 229 = .ok (.aload_n 0, 1) := by decide +kernel
theorem dX7_step_230 : decode cX7_step 230 = .ok (.iconst 4, 1) := by decide +kernel
theorem dX7_step_231 : decode cX7_step 231 = .ok (.putfield 75, 3) := by decide +kernel
theorem dX7_step_234 : decode cX7_step 234 = .ok (.goto 19, 3) := by decide +kernel
theorem dX7_step_237 : decode cX7_step 237 = .ok (.iload 4, 2) := by decide +kernel
theorem dX7_step_239 : decode cX7_step 239 = .ok (.ifCond .eq 10, 3) := by decide +kernel
theorem dX7_step_242 : decode cX7_step 242 = .ok (.aload_n 0, 1) := by decide +kernel
theorem dX7_step_243 : decode cX7_step 243 = .ok (.invokevirtual 93, 3) := by decide +kernel
theorem dX7_step_246 : decode cX7_step 246 = .ok (.goto 7, 3) := by decide +kernel
theorem dX7_step_249 : decode cX7_step 249 = .ok (.aload_n 0, 1) := by decide +kernel
theorem dX7_step_250 : decode cX7_step 250 = .ok (.invokevirtual 96, 3) := by decide +kernel
theorem dX7_step_253 : decode cX7_step 253 = .ok (.return_, 1) := by decide +kernel
theorem dX7_stepWord_0 : decode cX7_stepWord 0 = .ok (.aload_n 0, 1) := by decide +kernel
theorem dX7_stepWord_1 : decode cX7_stepWord 1 = .ok (.iconst 1, 1) := by decide +kernel
theorem dX7_stepWord_2 : decode cX7_stepWord 2 = .ok (.putfield 75, 3) := by decide +kernel
theorem dX7_stepWord_5 : decode cX7_stepWord 5 = .ok (.iconst 0, 1) := by decide +kernel
theorem dX7_stepWord_6 : decode cX7_stepWord 6 = .ok (.istore_n 1, 1) := by decide +kernel
theorem dX7_stepWord_7 : decode cX7_stepWord 7 = .ok (.aload_n 0, 1) := by decide +kernel
theorem dX7_stepWord_8 : decode cX7_stepWord 8 = .ok (.getfield 72, 3) := by decide +kernel
theorem dX7_stepWord_11 : decode cX7_stepWord 11 = .ok (.ifCond .lt 104, 3) := by decide +kernel
theorem dX7_stepWord_14 : decode cX7_stepWord 14 = .ok (.aload_n 0, 1) := by decide +kernel
theorem dX7_stepWord_15 : decode cX7_stepWord 15 = .ok (.getfield 72, 3) := by decide +kernel
theorem dX7_stepWord_18 : decode cX7_stepWord 18 = .ok (.aload_n 0, 1) := by decide +kernel
theorem dX7_stepWord_19 : decode cX7_stepWord 19 = .ok (.getfield 71, 3) := by decide +kernel
theorem dX7_stepWord_22 : decode cX7_stepWord 22 = .ok (.if_icmp .ge 93, 3) := by decide +kernel
theorem dX7_stepWord_25 : decode cX7_stepWord 25 = .ok (.aload_n 0, 1) := by decide +kernel
theorem dX7_stepWord_26 : decode cX7_stepWord 26 = .ok (.getfield 41, 3) := by decide +kernel
theorem dX7_stepWord_29 : decode cX7_stepWord 29 = .ok (.aload_n 0, 1) := by decide +kernel
theorem dX7_stepWord_30 : decode cX7_stepWord 30 = .ok (.getfield 72, 3) := by decide +kernel
theorem dX7_stepWord_33 : decode cX7_stepWord 33 = .ok (.iaload, 1) := by decide +kernel
theorem dX7_stepWord_34 : decode cX7_stepWord 34 = .ok (.bipush 97, 2) := by decide +kernel
theorem dX7_stepWord_36 : decode cX7_stepWord 36 = .ok (.if_icmp .lt 79, 3) := by decide +kernel
theorem dX7_stepWord_39 : decode cX7_stepWord 39 = .ok (.aload_n 0, 1) := by decide +kernel
theorem dX7_stepWord_40 : decode cX7_stepWord 40 = .ok (.getfield 41, 3) := by decide +kernel
theorem dX7_stepWord_43 : decode cX7_stepWord 43 = .ok (.aload_n 0, 1) := by decide +kernel
theorem dX7_stepWord_44 : decode cX7_stepWord 44 = .ok (.getfield 72, 3) := by decide +kernel
theorem dX7_stepWord_47 : decode cX7_stepWord 47 = .ok (.iaload, 1) := by decide +kernel
theorem dX7_stepWord_48 : decode cX7_stepWord 48 = .ok (.bipush 122, 2) := by decide +kernel
theorem dX7_stepWord_50 : decode cX7_stepWord 50 = .ok (.if_icmp .gt 65, 3) := by decide +kernel
theorem dX7_stepWord_53 : decode cX7_stepWord 53 = .ok (.iload_n 1, 1) := by decide +kernel
theorem dX7_stepWord_54 : decode cX7_stepWord 54 = .ok (.bipush 6, 2) := by decide +kernel
theorem dX7_stepWord_56 : decode cX7_stepWord 56 = .ok (.if_icmp .ne 17, 3) := by decide +kernel
theorem dX7_stepWord_59 : decode cX7_stepWord 59 = .ok (.aload_n 0, 1) := by decide +kernel
theorem dX7_stepWord_60 : decode cX7_stepWord 60 = .ok (.iconst 4, 1) := by decide +kernel
theorem dX7_stepWord_61 : decode cX7_stepWord 61 = .ok (.putfield 75, 3) := by decide +kernel
theorem dX7_stepWord_64 : decode cX7_stepWord 64 = .ok (.aload_n 0, 1) := by decide +kernel
theorem dX7_stepWord_65 : decode cX7_stepWord 65 = .ok (.aload_n 0, 1) := by decide +kernel
theorem dX7_stepWord_66 : decode cX7_stepWord 66 = .ok (.getfield 72, 3) := by decide +kernel
theorem dX7_stepWord_69 : decode cX7_stepWord 69 = .ok (.putfield 84, 3) := by decide +kernel
theorem dX7_stepWord_72 : decode cX7_stepWord 72 = .ok (.return_, 1) := by decide +kernel
theorem dX7_stepWord_73 : decode cX7_stepWord 73 = .ok (.aload_n 0, 1) := by decide +kernel
theorem dX7_stepWord_74 : decode cX7_stepWord 74 = .ok (.aload_n 0, 1) := by decide +kernel
theorem dX7_stepWord_75 : decode cX7_stepWord 75 = .ok (.getfield 90, 3) := by decide +kernel
theorem dX7_stepWord_78 : decode cX7_stepWord 78 = .ok (.bipush 27, 2) := by decide +kernel
theorem dX7_stepWord_80 : decode cX7_stepWord 80 = .ok (.imul, 1) := by decide +kernel
theorem dX7_stepWord_81 : decode cX7_stepWord 81 = .ok (.aload_n 0, 1) := by decide +kernel
theorem dX7_stepWord_82 : decode cX7_stepWord 82 = .ok (.getfield 41, 3) := by decide +kernel
theorem dX7_stepWord_85 : decode cX7_stepWord 85 = .ok (.aload_n 0, 1) := by decide +kernel
theorem dX7_stepWord_86 : decode cX7_stepWord 86 = .ok (.getfield 72, 3) := by decide +kernel
theorem dX7_stepWord_89 : decode cX7_stepWord 89 = .ok (.iaload, 1) := by decide +kernel
theorem dX7_stepWord_90 : decode cX7_stepWord 90 = .ok (.iadd, 1) := by decide +kernel
theorem dX7_stepWord_91 : decode cX7_stepWord 91 = .ok (.bipush 97, 2) := by decide +kernel
theorem dX7_stepWord_93 : decode cX7_stepWord 93 = .ok (.isub, 1) := by decide +kernel
theorem dX7_stepWord_94 : decode cX7_stepWord 94 = .ok (.iconst 1, 1) := by decide +kernel
theorem dX7_stepWord_95 : decode cX7_stepWord 95 = .ok (.iadd, 1) := by decide +kernel
theorem dX7_stepWord_96 : decode cX7_stepWord 96 = .ok (.putfield 90, 3) := by decide +kernel
theorem dX7_stepWord_99 : decode cX7_stepWord 99 = .ok (.iinc 1 1, 3) := by decide +kernel
theorem dX7_stepWord_102 : decode cX7_stepWord 102 = .ok (.aload_n 0, 1) := by decide +kernel
theorem dX7_stepWord_103 : decode cX7_stepWord 103 = .ok (.dup, 1) := by decide +kernel
theorem dX7_stepWord_104 : decode cX7_stepWord 104 = .ok (.getfield 72, 3) := by decide +kernel
theorem dX7_stepWord_107 : decode cX7_stepWord 107 = .ok (.iconst 1, 1) := by decide +kernel
theorem dX7_stepWord_108 : decode cX7_stepWord 108 = .ok (.iadd, 1) := by decide +kernel
theorem dX7_stepWord_109 : decode cX7_stepWord 109 = .ok (.putfield 72, 3) := by decide +kernel
theorem dX7_stepWord_112 : decode cX7_stepWord 112 = .ok (.goto (-105), 3) := by decide +kernel
theorem dX7_stepWord_115 : decode cX7_stepWord 115 = .ok (.iload_n 1, 1) := by decide +kernel
theorem dX7_stepWord_116 : decode cX7_stepWord 116 = .ok (.istore_n 2, 1) := by decide +kernel
theorem dX7_stepWord_117 : decode cX7_stepWord 117 = .ok (.iload_n 2, 1) := by decide +kernel
theorem dX7_stepWord_118 : decode cX7_stepWord 118 = .ok (.bipush 6, 2) := by decide +kernel
theorem dX7_stepWord_120 : decode cX7_stepWord 120 = .ok (.if_icmp .ge 20, 3) := by decide +kernel
theorem dX7_stepWord_123 : decode cX7_stepWord 123 = .ok (.aload_n 0, 1) := by decide +kernel
theorem dX7_stepWord_124 : decode cX7_stepWord 124 = .ok (.dup, 1) := by decide +kernel
theorem dX7_stepWord_125 : decode cX7_stepWord 125 = .ok (.getfield 90, 3) := by decide +kernel
theorem dX7_stepWord_128 : decode cX7_stepWord 128 = .ok (.bipush 27, 2) := by decide +kernel
theorem dX7_stepWord_130 : decode cX7_stepWord 130 = .ok (.imul, 1) := by decide +kernel
theorem dX7_stepWord_131 : decode cX7_stepWord 131 = .ok (.putfield 90, 3) := by decide +kernel
theorem dX7_stepWord_134 : decode cX7_stepWord 134 = .ok (.iinc 2 1, 3) := by decide +kernel
theorem dX7_stepWord_137 : decode cX7_stepWord 137 = .ok (.goto (-20), 3) := by decide +kernel
theorem dX7_stepWord_140 : decode cX7_stepWord 140 = .ok (.iconst 0, 1) := by decide +kernel
theorem dX7_stepWord_141 : decode cX7_stepWord 141 = .ok (.istore_n 2, 1) := by decide +kernel
theorem dX7_stepWord_142 : decode cX7_stepWord 142 = .ok (.iload_n 2, 1) := by decide +kernel
theorem dX7_stepWord_143 : decode cX7_stepWord 143 = .ok (.aload_n 0, 1) := by decide +kernel
theorem dX7_stepWord_144 : decode cX7_stepWord 144 = .ok (.getfield 37, 3) := by decide +kernel
theorem dX7_stepWord_147 : decode cX7_stepWord 147 = .ok (.arraylength, 1) := by decide +kernel
theorem dX7_stepWord_148 : decode cX7_stepWord 148 = .ok (.if_icmp .ge 27, 3) := by decide +kernel
theorem dX7_stepWord_151 : decode cX7_stepWord 151 = .ok (.aload_n 0, 1) := by decide +kernel
theorem dX7_stepWord_152 : decode cX7_stepWord 152 = .ok (.getfield 37, 3) := by decide +kernel
theorem dX7_stepWord_155 : decode cX7_stepWord 155 = .ok (.iload_n 2, 1) := by decide +kernel
theorem dX7_stepWord_156 : decode cX7_stepWord 156 = .ok (.iaload, 1) := by decide +kernel
theorem dX7_stepWord_157 : decode cX7_stepWord 157 = .ok (.aload_n 0, 1) := by decide +kernel
theorem dX7_stepWord_158 : decode cX7_stepWord 158 = .ok (.getfield 90, 3) := by decide +kernel
theorem dX7_stepWord_161 : decode cX7_stepWord 161 = .ok (.if_icmp .ne 8, 3) := by decide +kernel
theorem dX7_stepWord_164 : decode cX7_stepWord 164 = .ok (.aload_n 0, 1) := by decide +kernel
theorem dX7_stepWord_165 : decode cX7_stepWord 165 = .ok (.iload_n 2, 1) := by decide +kernel
theorem dX7_stepWord_166 : decode cX7_stepWord 166 = .ok (.putfield 87, 3) := by decide +kernel
theorem dX7_stepWord_169 : decode cX7_stepWord 169 = .ok (.iinc 2 1, 3) := by decide +kernel
theorem dX7_stepWord_172 : decode cX7_stepWord 172 = .ok (.goto (-30), 3) := by decide +kernel
theorem dX7_stepWord_175 : decode cX7_stepWord 175 = .ok (.return_, 1) := by decide +kernel
theorem dX7_stepNumber_0 : decode cX7_stepNumber 0 = .ok (.aload_n 0, 1) := by decide +kernel
theorem dX7_stepNumber_1 : decode cX7_stepNumber 1 = .ok (.iconst 2, 1) := by decide +kernel
theorem dX7_stepNumber_2 : decode cX7_stepNumber 2 = .ok (.putfield 75, 3) := by decide +kernel
theorem dX7_stepNumber_5 : decode cX7_stepNumber 5 = .ok (.iconst 0, 1) := by decide +kernel
theorem dX7_stepNumber_6 : decode cX7_stepNumber 6 = .ok (.istore_n 1, 1) := by decide +kernel
theorem dX7_stepNumber_7 : decode cX7_stepNumber 7 = .ok (.aload_n 0, 1) := by decide +kernel
theorem dX7_stepNumber_8 : decode cX7_stepNumber 8 = .ok (.getfield 72, 3) := by decide +kernel
theorem dX7_stepNumber_11 : decode cX7_stepNumber 11 = .ok (.ifCond .lt 101, 3) := by decide +kernel
theorem dX7_stepNumber_14 : decode cX7_stepNumber 14 = .ok (.aload_n 0, 1) := by decide +kernel
theorem dX7_stepNumber_15 : decode cX7_stepNumber 15 = .ok (.getfield 72, 3) := by decide +kernel
theorem dX7_stepNumber_18 : decode cX7_stepNumber 18 = .ok (.aload_n 0, 1) := by decide +kernel
theorem dX7_stepNumber_19 : decode cX7_stepNumber 19 = .ok (.getfield 71, 3) := by decide +kernel
theorem dX7_stepNumber_22 : decode cX7_stepNumber 22 = .ok (.if_icmp .ge 90, 3) := by decide +kernel
theorem dX7_stepNumber_25 : decode cX7_stepNumber 25 = .ok (.aload_n 0, 1) := by decide +kernel
theorem dX7_stepNumber_26 : decode cX7_stepNumber 26 = .ok (.getfield 41, 3) := by decide +kernel
theorem dX7_stepNumber_29 : decode cX7_stepNumber 29 = .ok (.aload_n 0, 1) := by decide +kernel
theorem dX7_stepNumber_30 : decode cX7_stepNumber 30 = .ok (.getfield 72, 3) := by decide +kernel
theorem dX7_stepNumber_33 : decode cX7_stepNumber 33 = .ok (.iaload, 1) := by decide +kernel
theorem dX7_stepNumber_34 : decode cX7_stepNumber 34 = .ok (.bipush 48, 2) := by decide +kernel
theorem dX7_stepNumber_36 : decode cX7_stepNumber 36 = .ok (.if_icmp .lt 76, 3) := by decide +kernel
theorem dX7_stepNumber_39 : decode cX7_stepNumber 39 = .ok (.aload_n 0, 1) := by decide +kernel
theorem dX7_stepNumber_40 : decode cX7_stepNumber 40 = .ok (.getfield 41, 3) := by decide +kernel
theorem dX7_stepNumber_43 : decode cX7_stepNumber 43 = .ok (.aload_n 0, 1) := by decide +kernel
theorem dX7_stepNumber_44 : decode cX7_stepNumber 44 = .ok (.getfield 72, 3) := by decide +kernel
theorem dX7_stepNumber_47 : decode cX7_stepNumber 47 = .ok (.iaload, 1) := by decide +kernel
theorem dX7_stepNumber_48 : decode cX7_stepNumber 48 = .ok (.bipush 57, 2) := by decide +kernel
theorem dX7_stepNumber_50 : decode cX7_stepNumber 50 = .ok (.if_icmp .gt 62, 3) := by decide +kernel
theorem dX7_stepNumber_53 : decode cX7_stepNumber 53 = .ok (.iload_n 1, 1) := by decide +kernel
theorem dX7_stepNumber_54 : decode cX7_stepNumber 54 = .ok (.iconst 4, 1) := by decide +kernel
theorem dX7_stepNumber_55 : decode cX7_stepNumber 55 = .ok (.if_icmp .ne 17, 3) := by decide +kernel
theorem dX7_stepNumber_58 : decode cX7_stepNumber 58 = .ok (.aload_n 0, 1) := by decide +kernel
theorem dX7_stepNumber_59 : decode cX7_stepNumber 59 = .ok (.iconst 4, 1) := by decide +kernel
theorem dX7_stepNumber_60 : decode cX7_stepNumber 60 = .ok (.putfield 75, 3) := by decide +kernel
theorem dX7_stepNumber_63 : decode cX7_stepNumber 63 = .ok (.aload_n 0, 1) := by decide +kernel
theorem dX7_stepNumber_64 : decode cX7_stepNumber 64 = .ok (.aload_n 0, 1) := by decide +kernel
theorem dX7_stepNumber_65 : decode cX7_stepNumber 65 = .ok (.getfield 72, 3) := by decide +kernel
theorem dX7_stepNumber_68 : decode cX7_stepNumber 68 = .ok (.putfield 84, 3) := by decide +kernel
theorem dX7_stepNumber_71 : decode cX7_stepNumber 71 = .ok (.return_, 1) := by decide +kernel
theorem dX7_stepNumber_72 : decode cX7_stepNumber 72 = .ok (.aload_n 0, 1) := by decide +kernel
theorem dX7_stepNumber_73 : decode cX7_stepNumber 73 = .ok (.aload_n 0, 1) := by decide +kernel
theorem dX7_stepNumber_74 : decode cX7_stepNumber 74 = .ok (.getfield 90, 3) := by decide +kernel
theorem dX7_stepNumber_77 : decode cX7_stepNumber 77 = .ok (.bipush 10, 2) := by decide +kernel
theorem dX7_stepNumber_79 : decode cX7_stepNumber 79 = .ok (.imul, 1) := by decide +kernel
theorem dX7_stepNumber_80 : decode cX7_stepNumber 80 = .ok (.aload_n 0, 1) := by decide +kernel
theorem dX7_stepNumber_81 : decode cX7_stepNumber 81 = .ok (.getfield 41, 3) := by decide +kernel
theorem dX7_stepNumber_84 : decode cX7_stepNumber 84 = .ok (.aload_n 0, 1) := by decide +kernel
theorem dX7_stepNumber_85 : decode cX7_stepNumber 85 = .ok (.getfield 72, 3) := by decide +kernel
theorem dX7_stepNumber_88 : decode cX7_stepNumber 88 = .ok (.iaload, 1) := by decide +kernel
theorem dX7_stepNumber_89 : decode cX7_stepNumber 89 = .ok (.iadd, 1) := by decide +kernel
theorem dX7_stepNumber_90 : decode cX7_stepNumber 90 = .ok (.bipush 48, 2) := by decide +kernel
theorem dX7_stepNumber_92 : decode cX7_stepNumber 92 = .ok (.isub, 1) := by decide +kernel
theorem dX7_stepNumber_93 : decode cX7_stepNumber 93 = .ok (.putfield 90, 3) := by decide +kernel
theorem dX7_stepNumber_96 : decode cX7_stepNumber 96 = .ok (.iinc 1 1, 3) := by decide +kernel
theorem dX7_stepNumber_99 : decode cX7_stepNumber 99 = .ok (.aload_n 0, 1) := by decide +kernel
theorem dX7_stepNumber_100 : decode cX7_stepNumber 100 = .ok (.dup, 1) := by decide +kernel
theorem dX7_stepNumber_101 : decode cX7_stepNumber 101 = .ok (.getfield 72, 3) := by decide +kernel
theorem dX7_stepNumber_104 : decode cX7_stepNumber 104 = .ok (.iconst 1, 1) := by decide +kernel
theorem dX7_stepNumber_105 : decode cX7_stepNumber 105 = .ok (.iadd, 1) := by decide +kernel
theorem dX7_stepNumber_106 : decode cX7_stepNumber 106 = .ok (.putfield 72, 3) := by decide +kernel
theorem dX7_stepNumber_109 : decode cX7_stepNumber 109 = .ok (.goto (-102), 3) := by decide +kernel
theorem dX7_stepNumber_112 : decode cX7_stepNumber 112 = .ok (.return_, 1) := by decide +kernel
theorem dX7_isName_0 : decode cX7_isName 0 = .ok (.aload_n 0, 1) := by decide +kernel
theorem dX7_isName_1 : decode cX7_isName 1 = .ok (.getfield 75, 3) := by decide +kernel
theorem dX7_isName_4 : decode cX7_isName 4 = .ok (.iconst 1, 1) := by decide +kernel
theorem dX7_isName_5 : decode cX7_isName 5 = .ok (.if_icmp .ne 15, 3) := by decide +kernel
theorem dX7_isName_8 : decode cX7_isName 8 = .ok (.aload_n 0, 1) := by decide +kernel
theorem dX7_isName_9 : decode cX7_isName 9 = .ok (.getfield 87, 3) := by decide +kernel
theorem dX7_isName_12 : decode cX7_isName 12 = .ok (.iconst (-1), 1) := by decide +kernel
theorem dX7_isName_13 : decode cX7_isName 13 = .ok (.if_icmp .ne 7, 3) := by decide +kernel
theorem dX7_isName_16 : decode cX7_isName 16 = .ok (.iconst 1, 1) := by decide +kernel
theorem dX7_isName_17 : decode cX7_isName 17 = .ok (.goto 4, 3) := by decide +kernel
theorem dX7_isName_20 : decode cX7_isName 20 = .ok (.iconst 0, 1) := by decide +kernel
theorem dX7_isName_21 : decode cX7_isName 21 = .ok (.ireturn, 1) := by decide +kernel
theorem dX7_isSign_0 : decode cX7_isSign 0 = .ok (.aload_n 0, 1) := by decide +kernel
theorem dX7_isSign_1 : decode cX7_isSign 1 = .ok (.getfield 75, 3) := by decide +kernel
theorem dX7_isSign_4 : decode cX7_isSign 4 = .ok (.iconst 3, 1) := by decide +kernel
theorem dX7_isSign_5 : decode cX7_isSign 5 = .ok (.if_icmp .ne 15, 3) := by decide +kernel
theorem dX7_isSign_8 : decode cX7_isSign 8 = .ok (.aload_n 0, 1) := by decide +kernel
theorem dX7_isSign_9 : decode cX7_isSign 9 = .ok (.getfield 90, 3) := by decide +kernel
theorem dX7_isSign_12 : decode cX7_isSign 12 = .ok (.iload_n 1, 1) := by decide +kernel
theorem dX7_isSign_13 : decode cX7_isSign 13 = .ok (.if_icmp .ne 7, 3) := by decide +kernel
theorem dX7_isSign_16 : decode cX7_isSign 16 = .ok (.iconst 1, 1) := by decide +kernel
theorem dX7_isSign_17 : decode cX7_isSign 17 = .ok (.goto 4, 3) := by decide +kernel
theorem dX7_isSign_20 : decode cX7_isSign 20 = .ok (.iconst 0, 1) := by decide +kernel
theorem dX7_isSign_21 : decode cX7_isSign 21 = .ok (.ireturn, 1) := by decide +kernel
theorem dX8_init_0 : decode cX8_init 0 = .ok (.aload_n 0, 1) := by decide +kernel
theorem dX8_init_1 : decode cX8_init 1 = .ok (.invokespecial 3, 3) := by decide +kernel
theorem dX8_init_4 : decode cX8_init 4 = .ok (.aload_n 0, 1) := by decide +kernel
theorem dX8_init_5 : decode cX8_init 5 = .ok (.bipush 16, 2) := by decide +kernel
theorem dX8_init_7 : decode cX8_init 7 = .ok (.newarray .int, 2) := by decide +kernel
theorem dX8_init_9 : decode cX8_init 9 = .ok (.putfield 9, 3) := by decide +kernel
theorem dX8_init_12 : decode cX8_init 12 = .ok (.aload_n 0, 1) := by decide +kernel
theorem dX8_init_13 : decode cX8_init 13 = .ok (.bipush 16, 2) := by decide +kernel
theorem dX8_init_15 : decode cX8_init 15 = .ok (.newarray .int, 2) := by decide +kernel
theorem dX8_init_17 : decode cX8_init 17 = .ok (.putfield 15, 3) := by decide +kernel
theorem dX8_init_20 : decode cX8_init 20 = .ok (.aload_n 0, 1) := by decide +kernel
theorem dX8_init_21 : decode cX8_init 21 = .ok (.sipush 256, 3) := by decide +kernel
theorem dX8_init_24 : decode cX8_init 24 = .ok (.newarray .int, 2) := by decide +kernel
theorem dX8_init_26 : decode cX8_init 26 = .ok (.putfield 18, 3) := by decide +kernel
theorem dX8_init_29 : decode cX8_init 29 = .ok (.aload_n 0, 1) := by decide +kernel
theorem dX8_init_30 : decode cX8_init 30 = .ok (.bipush 13, 2) := by decide +kernel
theorem dX8_init_32 : decode cX8_init 32 = .ok (.newarray .int, 2) := by decide +kernel
theorem dX8_init_34 : decode cX8_init 34 = .ok (.putfield 21, 3) := by decide +kernel
theorem dX8_init_37 : decode cX8_init 37 = .ok (.return_, 1) := by decide +kernel
theorem dX8_read_0 : decode cX8_read 0 = .ok (.aload_n 1, 1) := by decide +kernel
theorem dX8_read_1 : decode cX8_read 1 = .ok (.getfield 24, 3) := by decide +kernel
theorem dX8_read_4 : decode cX8_read 4 = .ok (.iconst 3, 1) := by decide +kernel
theorem dX8_read_5 : decode cX8_read 5 = .ok (.idiv, 1) := by decide +kernel
theorem dX8_read_6 : decode cX8_read 6 = .ok (.istore 4, 2) := by decide +kernel
theorem dX8_read_8 : decode cX8_read 8 = .ok (.iload 4, 2) := by decide +kernel
theorem dX8_read_10 : decode cX8_read 10 = .ok (.iconst 1, 1) := by decide +kernel
theorem dX8_read_11 : decode cX8_read 11 = .ok (.if_icmp .lt 21, 3) := by decide +kernel
theorem dX8_read_14 : decode cX8_read 14 = .ok (.iload 4, 2) := by decide +kernel
theorem dX8_read_16 : decode cX8_read 16 = .ok (.bipush 16, 2) := by decide +kernel
theorem dX8_read_18 : decode cX8_read 18 = .ok (.if_icmp .gt 14, 3) := by decide +kernel
theorem dX8_read_21 : decode cX8_read 21 = .ok (.aload_n 1, 1) := by decide +kernel
theorem dX8_read_22 : decode cX8_read 22 = .ok (.getfield 24, 3) := by decide +kernel
theorem dX8_read_25 : decode cX8_read 25 = .ok (.iconst 3, 1) := by decide +kernel
theorem dX8_read_26 : decode cX8_read 26 = .ok (.iload 4, 2) := by decide +kernel
theorem dX8_read_28 : decode cX8_read 28 = .ok (.imul, 1) := by decide +kernel
theorem dX8_read_29 : decode cX8_read 29 = .ok (.if_icmp .eq 5, 3) := by decide +kernel
theorem dX8_read_32 : decode cX8_read 32 = .ok (.iconst 0, 1) := by decide +kernel
theorem dX8_read_33 : decode cX8_read 33 = .ok (.ireturn, 1) := by decide +kernel
theorem dX8_read_34 : decode cX8_read 34 = .ok (.iconst 0, 1) := by decide +kernel
theorem dX8_read_35 : decode cX8_read 35 = .ok (.istore 5, 2) := by decide +kernel
theorem dX8_read_37 : decode cX8_read 37 = .ok (.iload 5, 2) := by decide +kernel
theorem dX8_read_39 : decode cX8_read 39 = .ok (.iload 4, 2) := by decide +kernel
theorem dX8_read_41 : decode cX8_read 41 = .ok (.if_icmp .ge 53, 3) := by decide +kernel
theorem dX8_read_44 : decode cX8_read 44 = .ok (.aload_n 1, 1) := by decide +kernel
theorem dX8_read_45 : decode cX8_read 45 = .ok (.iconst 3, 1) := by decide +kernel
theorem dX8_read_46 : decode cX8_read 46 = .ok (.iload 5, 2) := by decide +kernel
theorem dX8_read_48 : decode cX8_read 48 = .ok (.imul, 1) := by decide +kernel
theorem dX8_read_49 : decode cX8_read 49 = .ok (.iconst 2, 1) := by decide +kernel
theorem dX8_read_50 : decode cX8_read 50 = .ok (.iadd, 1) := by decide +kernel
theorem dX8_read_51 : decode cX8_read 51 = .ok (.invokevirtual 30, 3) := by decide +kernel
theorem dX8_read_54 : decode cX8_read 54 = .ok (.istore 6, 2) := by decide +kernel
theorem dX8_read_56 : decode cX8_read 56 = .ok (.aload_n 2, 1) := by decide +kernel
theorem dX8_read_57 : decode cX8_read 57 = .ok (.aload_n 1, 1) := by decide +kernel
theorem dX8_read_58 : decode cX8_read 58 = .ok (.iload 5, 2) := by decide +kernel
theorem dX8_read_60 : decode cX8_read 60 = .ok (.invokestatic 34, 3) := by decide +kernel
theorem dX8_read_63 : decode cX8_read 63 = .ok (.invokevirtual 38, 3) := by decide +kernel
theorem dX8_read_66 : decode cX8_read 66 = .ok (.ifCond .eq 20, 3) := by decide +kernel
theorem dX8_read_69 : decode cX8_read 69 = .ok (.iload 6, 2) := by decide +kernel
theorem dX8_read_71 : decode cX8_read 71 = .ok (.sipush 255, 3) := by decide +kernel
theorem dX8_read_74 : decode cX8_read 74 = .ok (.if_icmp .eq 14, 3) := by decide +kernel
theorem dX8_read_77 : decode cX8_read 77 = .ok (.aload_n 3, 1) := by decide +kernel
theorem dX8_read_78 : decode cX8_read 78 = .ok (.iload 6, 2) := by decide +kernel
theorem dX8_read_80 : decode cX8_read 80 = .ok (.invokevirtual 44, 3) := by decide +kernel
theorem dX8_read_83 : decode cX8_read 83 = .ok (.ifCond .ne 5, 3) := by decide +kernel
theorem dX8_read_86 : decode cX8_read 86 = .ok (.iconst 0, 1) := by decide +kernel
theorem dX8_read_87 : decode cX8_read 87 = .ok (.ireturn, 1) := by decide +kernel
theorem dX8_read_88 : decode cX8_read 88 = .ok (.iinc 5 1, 3) := by decide +kernel
theorem dX8_read_91 : decode cX8_read 91 = .ok (.goto (-54), 3) := by decide +kernel
theorem dX8_read_94 : decode cX8_read 94 = .ok (.aload_n 0, 1) := by decide +kernel
theorem dX8_read_95 : decode cX8_read 95 = .ok (.iload 4, 2) := by decide +kernel
theorem dX8_read_97 : decode cX8_read 97 = .ok (.putfield 49, 3) := by decide +kernel
theorem dX8_read_100 : decode cX8_read 100 = .ok (.iconst 0, 1) := by decide +kernel
theorem dX8_read_101 : decode cX8_read 101 = .ok (.istore 5, 2) := by decide +kernel
theorem dX8_read_103 : decode cX8_read 103 = .ok (.iload 5, 2) := by decide +kernel
theorem dX8_read_105 : decode cX8_read 105 = .ok (.iload 4, 2) := by decide +kernel
theorem dX8_read_107 : decode cX8_read 107 = .ok (.if_icmp .ge 43, 3) := by decide +kernel
theorem dX8_read_110 : decode cX8_read 110 = .ok (.aload_n 0, 1) := by decide +kernel
theorem dX8_read_111 : decode cX8_read 111 = .ok (.getfield 9, 3) := by decide +kernel
theorem dX8_read_114 : decode cX8_read 114 = .ok (.iload 5, 2) := by decide +kernel
theorem dX8_read_116 : decode cX8_read 116 = .ok (.aload_n 1, 1) := by decide +kernel
theorem dX8_read_117 : decode cX8_read 117 = .ok (.iload 5, 2) := by decide +kernel
theorem dX8_read_119 : decode cX8_read 119 = .ok (.invokestatic 34, 3) := by decide +kernel
theorem dX8_read_122 : decode cX8_read 122 = .ok (.iastore, 1) := by decide +kernel
theorem dX8_read_123 : decode cX8_read 123 = .ok (.aload_n 0, 1) := by decide +kernel
theorem dX8_read_124 : decode cX8_read 124 = .ok (.getfield 15, 3) := by decide +kernel
theorem dX8_read_127 : decode cX8_read 127 = .ok (.iload 5, 2) := by decide +kernel
theorem dX8_read_129 : decode cX8_read 129 = .ok (.aload_n 3, 1) := by decide +kernel
theorem dX8_read_130 : decode cX8_read 130 = .ok (.aload_n 1, 1) := by decide +kernel
theorem dX8_read_131 : decode cX8_read 131 = .ok (.iconst 3, 1) := by decide +kernel
theorem dX8_read_132 : decode cX8_read 132 = .ok (.iload 5, 2) := by decide +kernel
theorem dX8_read_134 : decode cX8_read 134 = .ok (.imul, 1) := by decide +kernel
theorem dX8_read_135 : decode cX8_read 135 = .ok (.iconst 2, 1) := by decide +kernel
theorem dX8_read_136 : decode cX8_read 136 = .ok (.iadd, 1) := by decide +kernel
theorem dX8_read_137 : decode cX8_read 137 = .ok (.invokevirtual 30, 3) := by decide +kernel
theorem dX8_read_140 : decode cX8_read 140 = .ok (.invokevirtual 52, 3) := by decide +kernel
theorem dX8_read_143 : decode cX8_read 143 = .ok (.iastore, 1) := by decide +kernel
theorem dX8_read_144 : decode cX8_read 144 = .ok (.iinc 5 1, 3) := by decide +kernel
theorem dX8_read_147 : decode cX8_read 147 = .ok (.goto (-44), 3) := by decide +kernel
theorem dX8_read_150 : decode cX8_read 150 = .ok (.iconst 1, 1) := by decide +kernel
theorem dX8_read_151 : decode cX8_read 151 = .ok (.ireturn, 1) := by decide +kernel
theorem dX8_rowOn_0 : decode cX8_rowOn 0 = .ok (.aload_n 0, 1) := by decide +kernel
theorem dX8_rowOn_1 : decode cX8_rowOn 1 = .ok (.iconst 3, 1) := by decide +kernel
theorem dX8_rowOn_2 : decode cX8_rowOn 2 = .ok (.iload_n 1, 1) := by decide +kernel
theorem dX8_rowOn_3 : decode cX8_rowOn 3 = .ok (.imul, 1) := by decide +kernel
theorem dX8_rowOn_4 : decode cX8_rowOn 4 = .ok (.invokevirtual 30, 3) := by decide +kernel
theorem dX8_rowOn_7 : decode cX8_rowOn 7 = .ok (.sipush 256, 3) := by decide +kernel
theorem dX8_rowOn_10 : decode cX8_rowOn 10 = .ok (.imul, 1) := by decide +kernel
theorem dX8_rowOn_11 : decode cX8_rowOn 11 = .ok (.aload_n 0, 1) := by decide +kernel
theorem dX8_rowOn_12 : decode cX8_rowOn 12 = .ok (.iconst 3, 1) := by decide +kernel
theorem dX8_rowOn_13 : decode cX8_rowOn 13 = .ok (.iload_n 1, 1) := by decide +kernel
theorem dX8_rowOn_14 : decode cX8_rowOn 14 = .ok (.imul, 1) := by decide +kernel
theorem dX8_rowOn_15 : decode cX8_rowOn 15 = .ok (.iconst 1, 1) := by decide +kernel
theorem dX8_rowOn_16 : decode cX8_rowOn 16 = .ok (.iadd, 1) := by decide +kernel
theorem dX8_rowOn_17 : decode cX8_rowOn 17 = .ok (.invokevirtual 30, 3) := by decide +kernel
theorem dX8_rowOn_20 : decode cX8_rowOn 20 = .ok (.iadd, 1) := by decide +kernel
theorem dX8_rowOn_21 : decode cX8_rowOn 21 = .ok (.ireturn, 1) := by decide +kernel
theorem dX8_findSets_0 : decode cX8_findSets 0 = .ok (.aload_n 0, 1) := by decide +kernel
theorem dX8_findSets_1 : decode cX8_findSets 1 = .ok (.iconst 0, 1) := by decide +kernel
theorem dX8_findSets_2 : decode cX8_findSets 2 = .ok (.putfield 55, 3) := by decide +kernel
theorem dX8_findSets_5 : decode cX8_findSets 5 = .ok (.iconst 0, 1) := by decide +kernel
theorem dX8_findSets_6 : decode cX8_findSets 6 = .ok (.istore_n 3, 1) := by decide +kernel
theorem dX8_findSets_7 : decode cX8_findSets 7 = .ok (.iload_n 3, 1) := by decide +kernel
theorem dX8_findSets_8 : decode cX8_findSets 8 = .ok (.sipush 256, 3) := by decide +kernel
theorem dX8_findSets_11 : decode cX8_findSets 11 = .ok (.if_icmp .ge 39, 3) := by decide +kernel
theorem dX8_findSets_14 : decode cX8_findSets 14 = .ok (.aload_n 0, 1) := by decide +kernel
theorem dX8_findSets_15 : decode cX8_findSets 15 = .ok (.aload_n 1, 1) := by decide +kernel
theorem dX8_findSets_16 : decode cX8_findSets 16 = .ok (.aload_n 2, 1) := by decide +kernel
theorem dX8_findSets_17 : decode cX8_findSets 17 = .ok (.iload_n 3, 1) := by decide +kernel
theorem dX8_findSets_18 : decode cX8_findSets 18 = .ok (.invokevirtual 58, 3) := by decide +kernel
theorem dX8_findSets_21 : decode cX8_findSets 21 = .ok (.ifCond .eq 23, 3) := by decide +kernel
theorem dX8_findSets_24 : decode cX8_findSets 24 = .ok (.aload_n 0, 1) := by decide +kernel
theorem dX8_findSets_25 : decode cX8_findSets 25 = .ok (.getfield 18, 3) := by decide +kernel
theorem dX8_findSets_28 : decode cX8_findSets 28 = .ok (.aload_n 0, 1) := by decide +kernel
theorem dX8_findSets_29 : decode cX8_findSets 29 = .ok (.getfield 55, 3) := by decide +kernel
theorem dX8_findSets_32 : decode cX8_findSets 32 = .ok (.iload_n 3, 1) := by decide +kernel
theorem dX8_findSets_33 : decode cX8_findSets 33 = .ok (.iastore, 1) := by decide +kernel
theorem dX8_findSets_34 : decode cX8_findSets 34 = .ok (.aload_n 0, 1) := by decide +kernel
theorem dX8_findSets_35 : decode cX8_findSets 35 = .ok (.dup, 1) := by decide +kernel
theorem dX8_findSets_36 : decode cX8_findSets 36 = .ok (.getfield 55, 3) := by decide +kernel
theorem dX8_findSets_39 : decode cX8_findSets 39 = .ok (.iconst 1, 1) := by decide +kernel
theorem dX8_findSets_40 : decode cX8_findSets 40 = .ok (.iadd, 1) := by decide +kernel
theorem dX8_findSets_41 : decode cX8_findSets 41 = .ok (.putfield 55, 3) := by decide +kernel
theorem dX8_findSets_44 : decode cX8_findSets 44 = .ok (.iinc 3 1, 3) := by decide +kernel
theorem dX8_findSets_47 : decode cX8_findSets 47 = .ok (.goto (-40), 3) := by decide +kernel
theorem dX8_findSets_50 : decode cX8_findSets 50 = .ok (.return_, 1) := by decide +kernel
theorem dX8_agrees_0 : decode cX8_agrees 0 = .ok (.iconst 0, 1) := by decide +kernel
theorem dX8_agrees_1 : decode cX8_agrees 1 = .ok (.istore 4, 2) := by decide +kernel
theorem dX8_agrees_3 : decode cX8_agrees 3 = .ok (.iload 4, 2) := by decide +kernel
theorem dX8_agrees_5 : decode cX8_agrees 5 = .ok (.aload_n 0, 1) := by decide +kernel
theorem dX8_agrees_6 : decode cX8_agrees 6 = .ok (.getfield 49, 3) := by decide +kernel
theorem dX8_agrees_9 : decode cX8_agrees 9 = .ok (.if_icmp .ge 46, 3) := by decide +kernel
theorem dX8_agrees_12 : decode cX8_agrees 12 = .ok (.aload_n 2, 1) := by decide +kernel
theorem dX8_agrees_13 : decode cX8_agrees 13 = .ok (.aload_n 1, 1) := by decide +kernel
theorem dX8_agrees_14 : decode cX8_agrees 14 = .ok (.aload_n 1, 1) := by decide +kernel
theorem dX8_agrees_15 : decode cX8_agrees 15 = .ok (.aload_n 0, 1) := by decide +kernel
theorem dX8_agrees_16 : decode cX8_agrees 16 = .ok (.getfield 9, 3) := by decide +kernel
theorem dX8_agrees_19 : decode cX8_agrees 19 = .ok (.iload 4, 2) := by decide +kernel
theorem dX8_agrees_21 : decode cX8_agrees 21 = .ok (.iaload, 1) := by decide +kernel
theorem dX8_agrees_22 : decode cX8_agrees 22 = .ok (.invokevirtual 62, 3) := by decide +kernel
theorem dX8_agrees_25 : decode cX8_agrees 25 = .ok (.iload_n 3, 1) := by decide +kernel
theorem dX8_agrees_26 : decode cX8_agrees 26 = .ok (.invokevirtual 65, 3) := by decide +kernel
theorem dX8_agrees_29 : decode cX8_agrees 29 = .ok (.istore 5, 2) := by decide +kernel
theorem dX8_agrees_31 : decode cX8_agrees 31 = .ok (.aload_n 2, 1) := by decide +kernel
theorem dX8_agrees_32 : decode cX8_agrees 32 = .ok (.iload 5, 2) := by decide +kernel
theorem dX8_agrees_34 : decode cX8_agrees 34 = .ok (.invokevirtual 52, 3) := by decide +kernel
theorem dX8_agrees_37 : decode cX8_agrees 37 = .ok (.aload_n 0, 1) := by decide +kernel
theorem dX8_agrees_38 : decode cX8_agrees 38 = .ok (.getfield 15, 3) := by decide +kernel
theorem dX8_agrees_41 : decode cX8_agrees 41 = .ok (.iload 4, 2) := by decide +kernel
theorem dX8_agrees_43 : decode cX8_agrees 43 = .ok (.iaload, 1) := by decide +kernel
theorem dX8_agrees_44 : decode cX8_agrees 44 = .ok (.if_icmp .eq 5, 3) := by decide +kernel
theorem dX8_agrees_47 : decode cX8_agrees 47 = .ok (.iconst 0, 1) := by decide +kernel
theorem dX8_agrees_48 : decode cX8_agrees 48 = .ok (.ireturn, 1) := by decide +kernel
theorem dX8_agrees_49 : decode cX8_agrees 49 = .ok (.iinc 4 1, 3) := by decide +kernel
theorem dX8_agrees_52 : decode cX8_agrees 52 = .ok (.goto (-49), 3) := by decide +kernel
theorem dX8_agrees_55 : decode cX8_agrees 55 = .ok (.iconst 1, 1) := by decide +kernel
theorem dX8_agrees_56 : decode cX8_agrees 56 = .ok (.ireturn, 1) := by decide +kernel
theorem dX8_mostLeft_0 : decode cX8_mostLeft 0 = .ok (.iconst 0, 1) := by decide +kernel
theorem dX8_mostLeft_1 : decode cX8_mostLeft 1 = .ok (.istore 4, 2) := by decide +kernel
theorem dX8_mostLeft_3 : decode cX8_mostLeft 3 = .ok (.iload 4, 2) := by decide +kernel
theorem dX8_mostLeft_5 : decode cX8_mostLeft 5 = .ok (.bipush 12, 2) := by decide +kernel
theorem dX8_mostLeft_7 : decode cX8_mostLeft 7 = .ok (.if_icmp .gt 17, 3) := by decide +kernel
theorem dX8_mostLeft_10 : decode cX8_mostLeft 10 = .ok (.aload_n 0, 1) := by decide +kernel
theorem dX8_mostLeft_11 : decode cX8_mostLeft 11 = .ok (.getfield 21, 3) := by decide +kernel
theorem dX8_mostLeft_14 : decode cX8_mostLeft 14 = .ok (.iload 4, 2) := by decide +kernel
theorem dX8_mostLeft_16 : decode cX8_mostLeft 16 = .ok (.iconst 0, 1) := by decide +kernel
theorem dX8_mostLeft_17 : decode cX8_mostLeft 17 = .ok (.iastore, 1) := by decide +kernel
theorem dX8_mostLeft_18 : decode cX8_mostLeft 18 = .ok (.iinc 4 1, 3) := by decide +kernel
theorem dX8_mostLeft_21 : decode cX8_mostLeft 21 = .ok (.goto (-18), 3) := by decide +kernel
theorem dX8_mostLeft_24 : decode cX8_mostLeft 24 = .ok (.iconst 0, 1) := by decide +kernel
theorem dX8_mostLeft_25 : decode cX8_mostLeft 25 = .ok (.istore 4, 2) := by decide +kernel
theorem dX8_mostLeft_27 : decode cX8_mostLeft 27 = .ok (.iconst 0, 1) := by decide +kernel
theorem dX8_mostLeft_28 : decode cX8_mostLeft 28 = .ok (.istore 5, 2) := by decide +kernel
theorem dX8_mostLeft_30 : decode cX8_mostLeft 30 = .ok (.iload 5, 2) := by decide +kernel
theorem dX8_mostLeft_32 : decode cX8_mostLeft 32 = .ok (.aload_n 0, 1) := by decide +kernel
theorem dX8_mostLeft_33 : decode cX8_mostLeft 33 = .ok (.getfield 55, 3) := by decide +kernel
theorem dX8_mostLeft_36 : decode cX8_mostLeft 36 = .ok (.if_icmp .ge 71, 3) := by decide +kernel
theorem dX8_mostLeft_39 : decode cX8_mostLeft 39 = .ok (.iload 5, 2) := by decide +kernel
theorem dX8_mostLeft_41 : decode cX8_mostLeft 41 = .ok (.sipush 256, 3) := by decide +kernel
theorem dX8_mostLeft_44 : decode cX8_mostLeft 44 = .ok (.if_icmp .ge 63, 3) := by decide +kernel
theorem dX8_mostLeft_47 : decode cX8_mostLeft 47 = .ok (.aload_n 2, 1) := by decide +kernel
theorem dX8_mostLeft_48 : decode cX8_mostLeft 48 = .ok (.aload_n 1, 1) := by decide +kernel
theorem dX8_mostLeft_49 : decode cX8_mostLeft 49 = .ok (.iload_n 3, 1) := by decide +kernel
theorem dX8_mostLeft_50 : decode cX8_mostLeft 50 = .ok (.aload_n 0, 1) := by decide +kernel
theorem dX8_mostLeft_51 : decode cX8_mostLeft 51 = .ok (.getfield 18, 3) := by decide +kernel
theorem dX8_mostLeft_54 : decode cX8_mostLeft 54 = .ok (.iload 5, 2) := by decide +kernel
theorem dX8_mostLeft_56 : decode cX8_mostLeft 56 = .ok (.iaload, 1) := by decide +kernel
theorem dX8_mostLeft_57 : decode cX8_mostLeft 57 = .ok (.invokevirtual 65, 3) := by decide +kernel
theorem dX8_mostLeft_60 : decode cX8_mostLeft 60 = .ok (.iconst 1, 1) := by decide +kernel
end
section
theorem dX8_mostLeft_61 : decode cX8_mostLeft 61 = .ok (.iadd, 1) := by decide +kernel
theorem dX8_mostLeft_62 : decode cX8_mostLeft 62 = .ok (.istore 6, 2) := by decide +kernel
theorem dX8_mostLeft_64 : decode cX8_mostLeft 64 = .ok (.iload 6, 2) := by decide +kernel
theorem dX8_mostLeft_66 : decode cX8_mostLeft 66 = .ok (.ifCond .lt 35, 3) := by decide +kernel
theorem dX8_mostLeft_69 : decode cX8_mostLeft 69 = .ok (.iload 6, 2) := by decide +kernel
theorem dX8_mostLeft_71 : decode cX8_mostLeft 71 = .ok (.bipush 12, 2) := by decide +kernel
theorem dX8_mostLeft_73 : decode cX8_mostLeft 73 = .ok (.if_icmp .gt 28, 3) := by decide +kernel
theorem dX8_mostLeft_76 : decode cX8_mostLeft 76 = .ok (.aload_n 0, 1) := by decide +kernel
theorem dX8_mostLeft_77 : decode cX8_mostLeft 77 = .ok (.getfield 21, 3) := by decide +kernel
theorem dX8_mostLeft_80 : decode cX8_mostLeft 80 = .ok (.iload 6, 2) := by decide +kernel
theorem dX8_mostLeft_82 : decode cX8_mostLeft 82 = .ok (.dup2, 1) := by decide +kernel
theorem dX8_mostLeft_83 : decode cX8_mostLeft 83 = .ok (.iaload, 1) := by decide +kernel
theorem dX8_mostLeft_84 : decode cX8_mostLeft 84 = .ok (.iconst 1, 1) := by decide +kernel
theorem dX8_mostLeft_85 : decode cX8_mostLeft 85 = .ok (.iadd, 1) := by decide +kernel
theorem dX8_mostLeft_86 : decode cX8_mostLeft 86 = .ok (.iastore, 1) := by decide +kernel
theorem dX8_mostLeft_87 : decode cX8_mostLeft 87 = .ok (.iload 4, 2) := by decide +kernel
theorem dX8_mostLeft_89 : decode cX8_mostLeft 89 = .ok (.aload_n 0, 1) := by decide +kernel
theorem dX8_mostLeft_90 : decode cX8_mostLeft 90 = .ok (.getfield 21, 3) := by decide +kernel
theorem dX8_mostLeft_93 : decode cX8_mostLeft 93 = .ok (.iload 6, 2) := by decide +kernel
theorem dX8_mostLeft_95 : decode cX8_mostLeft 95 = .ok (.iaload, 1) := by decide +kernel
theorem dX8_mostLeft_96 : decode cX8_mostLeft 96 = .ok (.invokestatic 69, 3) := by decide +kernel
theorem dX8_mostLeft_99 : decode cX8_mostLeft 99 = .ok (.istore 4, 2) := by decide +kernel
theorem dX8_mostLeft_101 : decode cX8_mostLeft 101 = .ok (.iinc 5 1, 3) := by decide +kernel
theorem dX8_mostLeft_104 : decode cX8_mostLeft 104 = .ok (.goto (-74), 3) := by decide +kernel
theorem dX8_mostLeft_107 : decode cX8_mostLeft 107 = .ok (.iload 4, 2) := by decide +kernel
theorem dX8_mostLeft_109 : decode cX8_mostLeft 109 = .ok (.ireturn, 1) := by decide +kernel
theorem dX9_init_0 : decode cX9_init 0 = .ok (.aload_n 0, 1) := by decide +kernel
theorem dX9_init_1 : decode cX9_init 1 = .ok (.invokespecial 3, 3) := by decide +kernel
theorem dX9_init_4 : decode cX9_init 4 = .ok (.aload_n 0, 1) := by decide +kernel
theorem dX9_init_5 : decode cX9_init 5 = .ok (.new 9, 3) := by decide +kernel
theorem dX9_init_8 : decode cX9_init 8 = .ok (.dup, 1) := by decide +kernel
theorem dX9_init_9 : decode cX9_init 9 = .ok (.invokespecial 11, 3) := by decide +kernel
theorem dX9_init_12 : decode cX9_init 12 = .ok (.putfield 12, 3) := by decide +kernel
theorem dX9_init_15 : decode cX9_init 15 = .ok (.aload_n 0, 1) := by decide +kernel
theorem dX9_init_16 : decode cX9_init 16 = .ok (.iconst 4, 1) := by decide +kernel
theorem dX9_init_17 : decode cX9_init 17 = .ok (.newarray .int, 2) := by decide +kernel
theorem dX9_init_19 : decode cX9_init 19 = .ok (.putfield 18, 3) := by decide +kernel
theorem dX9_init_22 : decode cX9_init 22 = .ok (.aload_n 0, 1) := by decide +kernel
theorem dX9_init_23 : decode cX9_init 23 = .ok (.iconst 4, 1) := by decide +kernel
theorem dX9_init_24 : decode cX9_init 24 = .ok (.newarray .int, 2) := by decide +kernel
theorem dX9_init_26 : decode cX9_init 26 = .ok (.putfield 22, 3) := by decide +kernel
theorem dX9_init_29 : decode cX9_init 29 = .ok (.aload_n 0, 1) := by decide +kernel
theorem dX9_init_30 : decode cX9_init 30 = .ok (.iconst 4, 1) := by decide +kernel
theorem dX9_init_31 : decode cX9_init 31 = .ok (.newarray .int, 2) := by decide +kernel
theorem dX9_init_33 : decode cX9_init 33 = .ok (.putfield 25, 3) := by decide +kernel
theorem dX9_init_36 : decode cX9_init 36 = .ok (.aload_n 0, 1) := by decide +kernel
theorem dX9_init_37 : decode cX9_init 37 = .ok (.bipush 12, 2) := by decide +kernel
theorem dX9_init_39 : decode cX9_init 39 = .ok (.newarray .int, 2) := by decide +kernel
theorem dX9_init_41 : decode cX9_init 41 = .ok (.putfield 28, 3) := by decide +kernel
theorem dX9_init_44 : decode cX9_init 44 = .ok (.aload_n 0, 1) := by decide +kernel
theorem dX9_init_45 : decode cX9_init 45 = .ok (.iconst 4, 1) := by decide +kernel
theorem dX9_init_46 : decode cX9_init 46 = .ok (.sipush 2048, 3) := by decide +kernel
theorem dX9_init_49 : decode cX9_init 49 = .ok (.multianewarray 31 2, 4) := by decide +kernel
theorem dX9_init_53 : decode cX9_init 53 = .ok (.putfield 33, 3) := by decide +kernel
theorem dX9_init_56 : decode cX9_init 56 = .ok (.return_, 1) := by decide +kernel
theorem dX9_clear_0 : decode cX9_clear 0 = .ok (.aload_n 0, 1) := by decide +kernel
theorem dX9_clear_1 : decode cX9_clear 1 = .ok (.getfield 12, 3) := by decide +kernel
theorem dX9_clear_4 : decode cX9_clear 4 = .ok (.invokevirtual 36, 3) := by decide +kernel
theorem dX9_clear_7 : decode cX9_clear 7 = .ok (.aload_n 0, 1) := by decide +kernel
theorem dX9_clear_8 : decode cX9_clear 8 = .ok (.iconst 0, 1) := by decide +kernel
theorem dX9_clear_9 : decode cX9_clear 9 = .ok (.putfield 39, 3) := by decide +kernel
theorem dX9_clear_12 : decode cX9_clear 12 = .ok (.aload_n 0, 1) := by decide +kernel
theorem dX9_clear_13 : decode cX9_clear 13 = .ok (.iconst 0, 1) := by decide +kernel
theorem dX9_clear_14 : decode cX9_clear 14 = .ok (.putfield 43, 3) := by decide +kernel
theorem dX9_clear_17 : decode cX9_clear 17 = .ok (.aload_n 0, 1) := by decide +kernel
theorem dX9_clear_18 : decode cX9_clear 18 = .ok (.iconst 0, 1) := by decide +kernel
theorem dX9_clear_19 : decode cX9_clear 19 = .ok (.putfield 46, 3) := by decide +kernel
theorem dX9_clear_22 : decode cX9_clear 22 = .ok (.aload_n 0, 1) := by decide +kernel
theorem dX9_clear_23 : decode cX9_clear 23 = .ok (.iconst 0, 1) := by decide +kernel
theorem dX9_clear_24 : decode cX9_clear 24 = .ok (.putfield 49, 3) := by decide +kernel
theorem dX9_clear_27 : decode cX9_clear 27 = .ok (.aload_n 0, 1) := by decide +kernel
theorem dX9_clear_28 : decode cX9_clear 28 = .ok (.sipush 300, 3) := by decide +kernel
theorem dX9_clear_31 : decode cX9_clear 31 = .ok (.putfield 52, 3) := by decide +kernel
theorem dX9_clear_34 : decode cX9_clear 34 = .ok (.return_, 1) := by decide +kernel
theorem dX9_addColumn_0 : decode cX9_addColumn 0 = .ok (.aload_n 0, 1) := by decide +kernel
theorem dX9_addColumn_1 : decode cX9_addColumn 1 = .ok (.getfield 12, 3) := by decide +kernel
theorem dX9_addColumn_4 : decode cX9_addColumn 4 = .ok (.iload_n 1, 1) := by decide +kernel
theorem dX9_addColumn_5 : decode cX9_addColumn 5 = .ok (.invokevirtual 55, 3) := by decide +kernel
theorem dX9_addColumn_8 : decode cX9_addColumn 8 = .ok (.istore_n 2, 1) := by decide +kernel
theorem dX9_addColumn_9 : decode cX9_addColumn 9 = .ok (.aload_n 0, 1) := by decide +kernel
theorem dX9_addColumn_10 : decode cX9_addColumn 10 = .ok (.getfield 39, 3) := by decide +kernel
theorem dX9_addColumn_13 : decode cX9_addColumn 13 = .ok (.iconst 4, 1) := by decide +kernel
theorem dX9_addColumn_14 : decode cX9_addColumn 14 = .ok (.if_icmp .ge 10, 3) := by decide +kernel
theorem dX9_addColumn_17 : decode cX9_addColumn 17 = .ok (.iload_n 2, 1) := by decide +kernel
theorem dX9_addColumn_18 : decode cX9_addColumn 18 = .ok (.sipush 2048, 3) := by decide +kernel
theorem dX9_addColumn_21 : decode cX9_addColumn 21 = .ok (.if_icmp .le 4, 3) := by decide +kernel
theorem dX9_addColumn_25 : decode cX9_addColumn 25 = .ok (.aload_n 0, 1) := by decide +kernel
theorem dX9_addColumn_26 : decode cX9_addColumn 26 = .ok (.getfield 18, 3) := by decide +kernel
theorem dX9_addColumn_29 : decode cX9_addColumn 29 = .ok (.aload_n 0, 1) := by decide +kernel
theorem dX9_addColumn_30 : decode cX9_addColumn 30 = .ok (.getfield 39, 3) := by decide +kernel
theorem dX9_addColumn_33 : decode cX9_addColumn 33 = .ok (.iload_n 1, 1) := by decide +kernel
theorem dX9_addColumn_34 : decode cX9_addColumn 34 = .ok (.iastore, 1) := by decide +kernel
theorem dX9_addColumn_35 : decode cX9_addColumn 35 = .ok (.aload_n 0, 1) := by decide +kernel
theorem dX9_addColumn_36 : decode cX9_addColumn 36 = .ok (.getfield 22, 3) := by decide +kernel
theorem dX9_addColumn_39 : decode cX9_addColumn 39 = .ok (.aload_n 0, 1) := by decide +kernel
theorem dX9_addColumn_40 : decode cX9_addColumn 40 = .ok (.getfield 39, 3) := by decide +kernel
theorem dX9_addColumn_43 : decode cX9_addColumn 43 = .ok (.iload_n 2, 1) := by decide +kernel
theorem dX9_addColumn_44 : decode cX9_addColumn 44 = .ok (.iastore, 1) := by decide +kernel
theorem dX9_addColumn_45 : decode cX9_addColumn 45 = .ok (.aload_n 0, 1) := by decide +kernel
theorem dX9_addColumn_46 : decode cX9_addColumn 46 = .ok (.getfield 25, 3) := by decide +kernel
theorem dX9_addColumn_49 : decode cX9_addColumn 49 = .ok (.aload_n 0, 1) := by decide +kernel
theorem dX9_addColumn_50 : decode cX9_addColumn 50 = .ok (.getfield 39, 3) := by decide +kernel
theorem dX9_addColumn_53 : decode cX9_addColumn 53 = .ok (.iconst 0, 1) := by decide +kernel
theorem dX9_addColumn_54 : decode cX9_addColumn 54 = .ok (.iastore, 1) := by decide +kernel
theorem dX9_addColumn_55 : decode cX9_addColumn 55 = .ok (.iconst 0, 1) := by decide +kernel
theorem dX9_addColumn_56 : decode cX9_addColumn 56 = .ok (.istore_n 3, 1) := by decide +kernel
theorem dX9_addColumn_57 : decode cX9_addColumn 57 = .ok (.iload_n 3, 1) := by decide +kernel
theorem dX9_addColumn_58 : decode cX9_addColumn 58 = .ok (.iload_n 2, 1) := by decide +kernel
theorem dX9_addColumn_59 : decode cX9_addColumn 59 = .ok (.if_icmp .ge 21, 3) := by decide +kernel
theorem dX9_addColumn_62 : decode cX9_addColumn 62 = .ok (.aload_n 0, 1) := by decide +kernel
theorem dX9_addColumn_63 : decode cX9_addColumn 63 = .ok (.getfield 33, 3) := by decide +kernel
theorem dX9_addColumn_66 : decode cX9_addColumn 66 = .ok (.aload_n 0, 1) := by decide +kernel
theorem dX9_addColumn_67 : decode cX9_addColumn 67 = .ok (.getfield 39, 3) := by decide +kernel
theorem dX9_addColumn_70 : decode cX9_addColumn 70 = .ok (.aaload, 1) := by decide +kernel
theorem dX9_addColumn_71 : decode cX9_addColumn 71 = .ok (.iload_n 3, 1) := by decide +kernel
theorem dX9_addColumn_72 : decode cX9_addColumn 72 = .ok (.iconst 0, 1) := by decide +kernel
theorem dX9_addColumn_73 : decode cX9_addColumn 73 = .ok (.iastore, 1) := by decide +kernel
theorem dX9_addColumn_74 : decode cX9_addColumn 74 = .ok (.iinc 3 1, 3) := by decide +kernel
theorem dX9_addColumn_77 : decode cX9_addColumn 77 = .ok (.goto (-20), 3) := by decide +kernel
theorem dX9_addColumn_80 : decode cX9_addColumn 80 = .ok (.aload_n 0, 1) := by decide +kernel
theorem dX9_addColumn_81 : decode cX9_addColumn 81 = .ok (.aload_n 0, 1) := by decide +kernel
theorem dX9_addColumn_82 : decode cX9_addColumn 82 = .ok (.getfield 39, 3) := by decide +kernel
theorem dX9_addColumn_85 : decode cX9_addColumn 85 = .ok (.ifCond .ne 7, 3) := by decide +kernel
theorem dX9_addColumn_88 : decode cX9_addColumn 88 = .ok (.iload_n 2, 1) := by decide +kernel
theorem dX9_addColumn_89 : decode cX9_addColumn 89 = .ok (.goto 9, 3) := by decide +kernel
theorem dX9_addColumn_92 : decode cX9_addColumn 92 = .ok (.aload_n 0, 1) := by decide +kernel
theorem dX9_addColumn_93 : decode cX9_addColumn 93 = .ok (.getfield 43, 3) := by decide +kernel
theorem dX9_addColumn_96 : decode cX9_addColumn 96 = .ok (.iload_n 2, 1) := by decide +kernel
theorem dX9_addColumn_97 : decode cX9_addColumn 97 = .ok (.imul, 1) := by decide +kernel
theorem dX9_addColumn_98 : decode cX9_addColumn 98 = .ok (.putfield 43, 3) := by decide +kernel
theorem dX9_addColumn_101 : decode cX9_addColumn 101 = .ok (.aload_n 0, 1) := by decide +kernel
theorem dX9_addColumn_102 : decode cX9_addColumn 102 = .ok (.dup, 1) := by decide +kernel
theorem dX9_addColumn_103 : decode cX9_addColumn 103 = .ok (.getfield 39, 3) := by decide +kernel
theorem dX9_addColumn_106 : decode cX9_addColumn 106 = .ok (.iconst 1, 1) := by decide +kernel
theorem dX9_addColumn_107 : decode cX9_addColumn 107 = .ok (.iadd, 1) := by decide +kernel
theorem dX9_addColumn_108 : decode cX9_addColumn 108 = .ok (.putfield 39, 3) := by decide +kernel
theorem dX9_addColumn_111 : decode cX9_addColumn 111 = .ok (.return_, 1) := by decide +kernel
theorem dX9_setPattern_0 : decode cX9_setPattern 0 = .ok (.iload_n 1, 1) := by decide +kernel
theorem dX9_setPattern_1 : decode cX9_setPattern 1 = .ok (.ifCond .lt 20, 3) := by decide +kernel
theorem dX9_setPattern_4 : decode cX9_setPattern 4 = .ok (.iload_n 1, 1) := by decide +kernel
theorem dX9_setPattern_5 : decode cX9_setPattern 5 = .ok (.aload_n 0, 1) := by decide +kernel
theorem dX9_setPattern_6 : decode cX9_setPattern 6 = .ok (.getfield 39, 3) := by decide +kernel
theorem dX9_setPattern_9 : decode cX9_setPattern 9 = .ok (.if_icmp .ge 12, 3) := by decide +kernel
theorem dX9_setPattern_12 : decode cX9_setPattern 12 = .ok (.aload_n 0, 1) := by decide +kernel
theorem dX9_setPattern_13 : decode cX9_setPattern 13 = .ok (.getfield 46, 3) := by decide +kernel
theorem dX9_setPattern_16 : decode cX9_setPattern 16 = .ok (.bipush 12, 2) := by decide +kernel
theorem dX9_setPattern_18 : decode cX9_setPattern 18 = .ok (.if_icmp .lt 4, 3) := by decide +kernel
theorem dX9_setPattern_21 : decode cX9_setPattern 21 = .ok (.return_, 1) := by decide +kernel
theorem dX9_setPattern_22 : decode cX9_setPattern 22 = .ok (.iconst 1, 1) := by decide +kernel
theorem dX9_setPattern_23 : decode cX9_setPattern 23 = .ok (.aload_n 0, 1) := by decide +kernel
theorem dX9_setPattern_24 : decode cX9_setPattern 24 = .ok (.getfield 46, 3) := by decide +kernel
theorem dX9_setPattern_27 : decode cX9_setPattern 27 = .ok (.ishl, 1) := by decide +kernel
theorem dX9_setPattern_28 : decode cX9_setPattern 28 = .ok (.istore_n 3, 1) := by decide +kernel
theorem dX9_setPattern_29 : decode cX9_setPattern 29 = .ok (.iconst 1, 1) := by decide +kernel
theorem dX9_setPattern_30 : decode cX9_setPattern 30 = .ok (.istore 4, 2) := by decide +kernel
theorem dX9_setPattern_32 : decode cX9_setPattern 32 = .ok (.iconst 0, 1) := by decide +kernel
theorem dX9_setPattern_33 : decode cX9_setPattern 33 = .ok (.istore 5, 2) := by decide +kernel
theorem dX9_setPattern_35 : decode cX9_setPattern 35 = .ok (.iload 5, 2) := by decide +kernel
theorem dX9_setPattern_37 : decode cX9_setPattern 37 = .ok (.aload_n 0, 1) := by decide +kernel
theorem dX9_setPattern_38 : decode cX9_setPattern 38 = .ok (.getfield 22, 3) := by decide +kernel
theorem dX9_setPattern_41 : decode cX9_setPattern 41 = .ok (.iload_n 1, 1) := by decide +kernel
theorem dX9_setPattern_42 : decode cX9_setPattern 42 = .ok (.iaload, 1) := by decide +kernel
theorem dX9_setPattern_43 : decode cX9_setPattern 43 = .ok (.if_icmp .ge 42, 3) := by decide +kernel
theorem dX9_setPattern_46 : decode cX9_setPattern 46 = .ok (.iload 5, 2) := by decide +kernel
theorem dX9_setPattern_48 : decode cX9_setPattern 48 = .ok (.aload_n 2, 1) := by decide +kernel
theorem dX9_setPattern_49 : decode cX9_setPattern 49 = .ok (.arraylength, 1) := by decide +kernel
theorem dX9_setPattern_50 : decode cX9_setPattern 50 = .ok (.if_icmp .ge 35, 3) := by decide +kernel
theorem dX9_setPattern_53 : decode cX9_setPattern 53 = .ok (.aload_n 2, 1) := by decide +kernel
theorem dX9_setPattern_54 : decode cX9_setPattern 54 = .ok (.iload 5, 2) := by decide +kernel
theorem dX9_setPattern_56 : decode cX9_setPattern 56 = .ok (.iaload, 1) := by decide +kernel
theorem dX9_setPattern_57 : decode cX9_setPattern 57 = .ok (.ifCond .eq 19, 3) := by decide +kernel
theorem dX9_setPattern_60 : decode cX9_setPattern 60 = .ok (.aload_n 0, 1) := by decide +kernel
theorem dX9_setPattern_61 : decode cX9_setPattern 61 = .ok (.getfield 33, 3) := by decide +kernel
theorem dX9_setPattern_64 : decode cX9_setPattern 64 = .ok (.iload_n 1, 1) := by decide +kernel
theorem dX9_setPattern_65 : decode cX9_setPattern 65 = .ok (.aaload, 1) := by decide +kernel
theorem dX9_setPattern_66 : decode cX9_setPattern 66 = .ok (.iload 5, 2) := by decide +kernel
theorem dX9_setPattern_68 : decode cX9_setPattern 68 = .ok (.dup2, 1) := by decide +kernel
theorem dX9_setPattern_69 : decode cX9_setPattern 69 = .ok (.iaload, 1) := by decide +kernel
theorem dX9_setPattern_70 : decode cX9_setPattern 70 = .ok (.iload_n 3, 1) := by decide +kernel
theorem dX9_setPattern_71 : decode cX9_setPattern 71 = .ok (.ior, 1) := by decide +kernel
theorem dX9_setPattern_72 : decode cX9_setPattern 72 = .ok (.iastore, 1) := by decide +kernel
theorem dX9_setPattern_73 : decode cX9_setPattern 73 = .ok (.goto 6, 3) := by decide +kernel
theorem dX9_setPattern_76 : decode cX9_setPattern 76 = .ok (.iconst 0, 1) := by decide +kernel
theorem dX9_setPattern_77 : decode cX9_setPattern 77 = .ok (.istore 4, 2) := by decide +kernel
theorem dX9_setPattern_79 : decode cX9_setPattern 79 = .ok (.iinc 5 1, 3) := by decide +kernel
theorem dX9_setPattern_82 : decode cX9_setPattern 82 = .ok (.goto (-47), 3) := by decide +kernel
theorem dX9_setPattern_85 : decode cX9_setPattern 85 = .ok (.iload 4, 2) := by decide +kernel
theorem dX9_setPattern_87 : decode cX9_setPattern 87 = .ok (.ifCond .eq 13, 3) := by decide +kernel
theorem dX9_setPattern_90 : decode cX9_setPattern 90 = .ok (.aload_n 0, 1) := by decide +kernel
theorem dX9_setPattern_91 : decode cX9_setPattern 91 = .ok (.getfield 25, 3) := by decide +kernel
theorem dX9_setPattern_94 : decode cX9_setPattern 94 = .ok (.iload_n 1, 1) := by decide +kernel
theorem dX9_setPattern_95 : decode cX9_setPattern 95 = .ok (.dup2, 1) := by decide +kernel
theorem dX9_setPattern_96 : decode cX9_setPattern 96 = .ok (.iaload, 1) := by decide +kernel
theorem dX9_setPattern_97 : decode cX9_setPattern 97 = .ok (.iload_n 3, 1) := by decide +kernel
theorem dX9_setPattern_98 : decode cX9_setPattern 98 = .ok (.ior, 1) := by decide +kernel
theorem dX9_setPattern_99 : decode cX9_setPattern 99 = .ok (.iastore, 1) := by decide +kernel
theorem dX9_setPattern_100 : decode cX9_setPattern 100 = .ok (.return_, 1) := by decide +kernel
theorem dX9_addArm_0 : decode cX9_addArm 0 = .ok (.aload_n 0, 1) := by decide +kernel
theorem dX9_addArm_1 : decode cX9_addArm 1 = .ok (.getfield 46, 3) := by decide +kernel
theorem dX9_addArm_4 : decode cX9_addArm 4 = .ok (.bipush 12, 2) := by decide +kernel
theorem dX9_addArm_6 : decode cX9_addArm 6 = .ok (.if_icmp .ge 23, 3) := by decide +kernel
theorem dX9_addArm_9 : decode cX9_addArm 9 = .ok (.aload_n 0, 1) := by decide +kernel
theorem dX9_addArm_10 : decode cX9_addArm 10 = .ok (.getfield 28, 3) := by decide +kernel
theorem dX9_addArm_13 : decode cX9_addArm 13 = .ok (.aload_n 0, 1) := by decide +kernel
theorem dX9_addArm_14 : decode cX9_addArm 14 = .ok (.getfield 46, 3) := by decide +kernel
theorem dX9_addArm_17 : decode cX9_addArm 17 = .ok (.iload_n 1, 1) := by decide +kernel
theorem dX9_addArm_18 : decode cX9_addArm 18 = .ok (.iastore, 1) := by decide +kernel
theorem dX9_addArm_19 : decode cX9_addArm 19 = .ok (.aload_n 0, 1) := by decide +kernel
theorem dX9_addArm_20 : decode cX9_addArm 20 = .ok (.dup, 1) := by decide +kernel
theorem dX9_addArm_21 : decode cX9_addArm 21 = .ok (.getfield 46, 3) := by decide +kernel
theorem dX9_addArm_24 : decode cX9_addArm 24 = .ok (.iconst 1, 1) := by decide +kernel
theorem dX9_addArm_25 : decode cX9_addArm 25 = .ok (.iadd, 1) := by decide +kernel
theorem dX9_addArm_26 : decode cX9_addArm 26 = .ok (.putfield 46, 3) := by decide +kernel
theorem dX9_addArm_29 : decode cX9_addArm 29 = .ok (.return_, 1) := by decide +kernel
theorem dX9_guardOf_0 : decode cX9_guardOf 0 = .ok (.iload_n 1, 1) := by decide +kernel
theorem dX9_guardOf_1 : decode cX9_guardOf 1 = .ok (.ifCond .lt 20, 3) := by decide +kernel
theorem dX9_guardOf_4 : decode cX9_guardOf 4 = .ok (.iload_n 1, 1) := by decide +kernel
theorem dX9_guardOf_5 : decode cX9_guardOf 5 = .ok (.aload_n 0, 1) := by decide +kernel
theorem dX9_guardOf_6 : decode cX9_guardOf 6 = .ok (.getfield 46, 3) := by decide +kernel
theorem dX9_guardOf_9 : decode cX9_guardOf 9 = .ok (.if_icmp .ge 12, 3) := by decide +kernel
theorem dX9_guardOf_12 : decode cX9_guardOf 12 = .ok (.aload_n 0, 1) := by decide +kernel
theorem dX9_guardOf_13 : decode cX9_guardOf 13 = .ok (.getfield 28, 3) := by decide +kernel
theorem dX9_guardOf_16 : decode cX9_guardOf 16 = .ok (.iload_n 1, 1) := by decide +kernel
theorem dX9_guardOf_17 : decode cX9_guardOf 17 = .ok (.iaload, 1) := by decide +kernel
theorem dX9_guardOf_18 : decode cX9_guardOf 18 = .ok (.goto 4, 3) := by decide +kernel
theorem dX9_guardOf_21 : decode cX9_guardOf 21 = .ok (.iconst (-1), 1) := by decide +kernel
theorem dX9_guardOf_22 : decode cX9_guardOf 22 = .ok (.ireturn, 1) := by decide +kernel
theorem dX9_isRow_0 : decode cX9_isRow 0 = .ok (.iload_n 1, 1) := by decide +kernel
theorem dX9_isRow_1 : decode cX9_isRow 1 = .ok (.ifCond .lt 15, 3) := by decide +kernel
theorem dX9_isRow_4 : decode cX9_isRow 4 = .ok (.iload_n 1, 1) := by decide +kernel
theorem dX9_isRow_5 : decode cX9_isRow 5 = .ok (.aload_n 0, 1) := by decide +kernel
theorem dX9_isRow_6 : decode cX9_isRow 6 = .ok (.getfield 43, 3) := by decide +kernel
theorem dX9_isRow_9 : decode cX9_isRow 9 = .ok (.if_icmp .ge 7, 3) := by decide +kernel
theorem dX9_isRow_12 : decode cX9_isRow 12 = .ok (.iconst 1, 1) := by decide +kernel
theorem dX9_isRow_13 : decode cX9_isRow 13 = .ok (.goto 4, 3) := by decide +kernel
theorem dX9_isRow_16 : decode cX9_isRow 16 = .ok (.iconst 0, 1) := by decide +kernel
theorem dX9_isRow_17 : decode cX9_isRow 17 = .ok (.ireturn, 1) := by decide +kernel
theorem dX9_armsFitting_0 : decode cX9_armsFitting 0 = .ok (.iload_n 1, 1) := by decide +kernel
theorem dX9_armsFitting_1 : decode cX9_armsFitting 1 = .ok (.ifCond .lt 22, 3) := by decide +kernel
theorem dX9_armsFitting_4 : decode cX9_armsFitting 4 = .ok (.iload_n 1, 1) := by decide +kernel
theorem dX9_armsFitting_5 : decode cX9_armsFitting 5 = .ok (.aload_n 0, 1) := by decide +kernel
theorem dX9_armsFitting_6 : decode cX9_armsFitting 6 = .ok (.getfield 39, 3) := by decide +kernel
theorem dX9_armsFitting_9 : decode cX9_armsFitting 9 = .ok (.if_icmp .ge 14, 3) := by decide +kernel
theorem dX9_armsFitting_12 : decode cX9_armsFitting 12 = .ok (.iload_n 2, 1) := by decide +kernel
theorem dX9_armsFitting_13 : decode cX9_armsFitting 13 = .ok (.ifCond .lt 10, 3) := by decide +kernel
theorem dX9_armsFitting_16 : decode cX9_armsFitting 16 = .ok (.iload_n 2, 1) := by decide +kernel
theorem dX9_armsFitting_17 : decode cX9_armsFitting 17 = .ok (.sipush 2048, 3) := by decide +kernel
theorem dX9_armsFitting_20 : decode cX9_armsFitting 20 = .ok (.if_icmp .lt 5, 3) := by decide +kernel
theorem dX9_armsFitting_23 : decode cX9_armsFitting 23 = .ok (.iconst 0, 1) := by decide +kernel
theorem dX9_armsFitting_24 : decode cX9_armsFitting 24 = .ok (.ireturn, 1) := by decide +kernel
theorem dX9_armsFitting_25 : decode cX9_armsFitting 25 = .ok (.aload_n 0, 1) := by decide +kernel
theorem dX9_armsFitting_26 : decode cX9_armsFitting 26 = .ok (.getfield 33, 3) := by decide +kernel
theorem dX9_armsFitting_29 : decode cX9_armsFitting 29 = .ok (.iload_n 1, 1) := by decide +kernel
theorem dX9_armsFitting_30 : decode cX9_armsFitting 30 = .ok (.aaload, 1) := by decide +kernel
theorem dX9_armsFitting_31 : decode cX9_armsFitting 31 = .ok (.iload_n 2, 1) := by decide +kernel
theorem dX9_armsFitting_32 : decode cX9_armsFitting 32 = .ok (.iaload, 1) := by decide +kernel
theorem dX9_armsFitting_33 : decode cX9_armsFitting 33 = .ok (.ireturn, 1) := by decide +kernel
theorem dX9_valueOf_0 : decode cX9_valueOf 0 = .ok (.iload_n 1, 1) := by decide +kernel
theorem dX9_valueOf_1 : decode cX9_valueOf 1 = .ok (.istore_n 3, 1) := by decide +kernel
theorem dX9_valueOf_2 : decode cX9_valueOf 2 = .ok (.aload_n 0, 1) := by decide +kernel
theorem dX9_valueOf_3 : decode cX9_valueOf 3 = .ok (.getfield 39, 3) := by decide +kernel
theorem dX9_valueOf_6 : decode cX9_valueOf 6 = .ok (.iconst 1, 1) := by decide +kernel
theorem dX9_valueOf_7 : decode cX9_valueOf 7 = .ok (.isub, 1) := by decide +kernel
theorem dX9_valueOf_8 : decode cX9_valueOf 8 = .ok (.istore 4, 2) := by decide +kernel
theorem dX9_valueOf_10 : decode cX9_valueOf 10 = .ok (.iload 4, 2) := by decide +kernel
theorem dX9_valueOf_12 : decode cX9_valueOf 12 = .ok (.iload_n 2, 1) := by decide +kernel
theorem dX9_valueOf_13 : decode cX9_valueOf 13 = .ok (.if_icmp .le 33, 3) := by decide +kernel
theorem dX9_valueOf_16 : decode cX9_valueOf 16 = .ok (.aload_n 0, 1) := by decide +kernel
theorem dX9_valueOf_17 : decode cX9_valueOf 17 = .ok (.getfield 22, 3) := by decide +kernel
theorem dX9_valueOf_20 : decode cX9_valueOf 20 = .ok (.iload 4, 2) := by decide +kernel
theorem dX9_valueOf_22 : decode cX9_valueOf 22 = .ok (.iaload, 1) := by decide +kernel
theorem dX9_valueOf_23 : decode cX9_valueOf 23 = .ok (.ifCond .le 15, 3) := by decide +kernel
theorem dX9_valueOf_26 : decode cX9_valueOf 26 = .ok (.iload_n 3, 1) := by decide +kernel
theorem dX9_valueOf_27 : decode cX9_valueOf 27 = .ok (.aload_n 0, 1) := by decide +kernel
theorem dX9_valueOf_28 : decode cX9_valueOf 28 = .ok (.getfield 22, 3) := by decide +kernel
theorem dX9_valueOf_31 : decode cX9_valueOf 31 = .ok (.iload 4, 2) := by decide +kernel
theorem dX9_valueOf_33 : decode cX9_valueOf 33 = .ok (.iaload, 1) := by decide +kernel
theorem dX9_valueOf_34 : decode cX9_valueOf 34 = .ok (.idiv, 1) := by decide +kernel
theorem dX9_valueOf_35 : decode cX9_valueOf 35 = .ok (.goto 4, 3) := by decide +kernel
theorem dX9_valueOf_38 : decode cX9_valueOf 38 = .ok (.iconst 0, 1) := by decide +kernel
theorem dX9_valueOf_39 : decode cX9_valueOf 39 = .ok (.istore_n 3, 1) := by decide +kernel
theorem dX9_valueOf_40 : decode cX9_valueOf 40 = .ok (.iinc 4 (-1), 3) := by decide +kernel
theorem dX9_valueOf_43 : decode cX9_valueOf 43 = .ok (.goto (-33), 3) := by decide +kernel
theorem dX9_valueOf_46 : decode cX9_valueOf 46 = .ok (.iload_n 2, 1) := by decide +kernel
theorem dX9_valueOf_47 : decode cX9_valueOf 47 = .ok (.ifCond .lt 31, 3) := by decide +kernel
theorem dX9_valueOf_50 : decode cX9_valueOf 50 = .ok (.iload_n 2, 1) := by decide +kernel
theorem dX9_valueOf_51 : decode cX9_valueOf 51 = .ok (.aload_n 0, 1) := by decide +kernel
theorem dX9_valueOf_52 : decode cX9_valueOf 52 = .ok (.getfield 39, 3) := by decide +kernel
theorem dX9_valueOf_55 : decode cX9_valueOf 55 = .ok (.if_icmp .ge 23, 3) := by decide +kernel
theorem dX9_valueOf_58 : decode cX9_valueOf 58 = .ok (.aload_n 0, 1) := by decide +kernel
theorem dX9_valueOf_59 : decode cX9_valueOf 59 = .ok (.getfield 22, 3) := by decide +kernel
theorem dX9_valueOf_62 : decode cX9_valueOf 62 = .ok (.iload_n 2, 1) := by decide +kernel
theorem dX9_valueOf_63 : decode cX9_valueOf 63 = .ok (.iaload, 1) := by decide +kernel
theorem dX9_valueOf_64 : decode cX9_valueOf 64 = .ok (.ifCond .le 14, 3) := by decide +kernel
theorem dX9_valueOf_67 : decode cX9_valueOf 67 = .ok (.iload_n 3, 1) := by decide +kernel
theorem dX9_valueOf_68 : decode cX9_valueOf 68 = .ok (.aload_n 0, 1) := by decide +kernel
theorem dX9_valueOf_69 : decode cX9_valueOf 69 = .ok (.getfield 22, 3) := by decide +kernel
theorem dX9_valueOf_72 : decode cX9_valueOf 72 = .ok (.iload_n 2, 1) := by decide +kernel
theorem dX9_valueOf_73 : decode cX9_valueOf 73 = .ok (.iaload, 1) := by decide +kernel
theorem dX9_valueOf_74 : decode cX9_valueOf 74 = .ok (.irem, 1) := by decide +kernel
theorem dX9_valueOf_75 : decode cX9_valueOf 75 = .ok (.goto 4, 3) := by decide +kernel
theorem dX9_valueOf_78 : decode cX9_valueOf 78 = .ok (.iconst 0, 1) := by decide +kernel
theorem dX9_valueOf_79 : decode cX9_valueOf 79 = .ok (.ireturn, 1) := by decide +kernel
theorem dX9_armsOf_0 : decode cX9_armsOf 0 = .ok (.iconst 1, 1) := by decide +kernel
theorem dX9_armsOf_1 : decode cX9_armsOf 1 = .ok (.aload_n 0, 1) := by decide +kernel
theorem dX9_armsOf_2 : decode cX9_armsOf 2 = .ok (.getfield 46, 3) := by decide +kernel
theorem dX9_armsOf_5 : decode cX9_armsOf 5 = .ok (.ishl, 1) := by decide +kernel
theorem dX9_armsOf_6 : decode cX9_armsOf 6 = .ok (.iconst 1, 1) := by decide +kernel
theorem dX9_armsOf_7 : decode cX9_armsOf 7 = .ok (.isub, 1) := by decide +kernel
theorem dX9_armsOf_8 : decode cX9_armsOf 8 = .ok (.istore_n 2, 1) := by decide +kernel
theorem dX9_armsOf_9 : decode cX9_armsOf 9 = .ok (.iload_n 1, 1) := by decide +kernel
theorem dX9_armsOf_10 : decode cX9_armsOf 10 = .ok (.istore_n 3, 1) := by decide +kernel
theorem dX9_armsOf_11 : decode cX9_armsOf 11 = .ok (.aload_n 0, 1) := by decide +kernel
theorem dX9_armsOf_12 : decode cX9_armsOf 12 = .ok (.getfield 39, 3) := by decide +kernel
theorem dX9_armsOf_15 : decode cX9_armsOf 15 = .ok (.iconst 1, 1) := by decide +kernel
theorem dX9_armsOf_16 : decode cX9_armsOf 16 = .ok (.isub, 1) := by decide +kernel
theorem dX9_armsOf_17 : decode cX9_armsOf 17 = .ok (.istore 4, 2) := by decide +kernel
theorem dX9_armsOf_19 : decode cX9_armsOf 19 = .ok (.iload 4, 2) := by decide +kernel
theorem dX9_armsOf_21 : decode cX9_armsOf 21 = .ok (.ifCond .lt 40, 3) := by decide +kernel
theorem dX9_armsOf_24 : decode cX9_armsOf 24 = .ok (.aload_n 0, 1) := by decide +kernel
theorem dX9_armsOf_25 : decode cX9_armsOf 25 = .ok (.getfield 22, 3) := by decide +kernel
theorem dX9_armsOf_28 : decode cX9_armsOf 28 = .ok (.iload 4, 2) := by decide +kernel
theorem dX9_armsOf_30 : decode cX9_armsOf 30 = .ok (.iaload, 1) := by decide +kernel
theorem dX9_armsOf_31 : decode cX9_armsOf 31 = .ok (.iconst 1, 1) := by decide +kernel
theorem dX9_armsOf_32 : decode cX9_armsOf 32 = .ok (.invokestatic 59, 3) := by decide +kernel
theorem dX9_armsOf_35 : decode cX9_armsOf 35 = .ok (.istore 5, 2) := by decide +kernel
theorem dX9_armsOf_37 : decode cX9_armsOf 37 = .ok (.iload_n 2, 1) := by decide +kernel
theorem dX9_armsOf_38 : decode cX9_armsOf 38 = .ok (.aload_n 0, 1) := by decide +kernel
theorem dX9_armsOf_39 : decode cX9_armsOf 39 = .ok (.iload 4, 2) := by decide +kernel
theorem dX9_armsOf_41 : decode cX9_armsOf 41 = .ok (.iload_n 3, 1) := by decide +kernel
theorem dX9_armsOf_42 : decode cX9_armsOf 42 = .ok (.iload 5, 2) := by decide +kernel
theorem dX9_armsOf_44 : decode cX9_armsOf 44 = .ok (.irem, 1) := by decide +kernel
theorem dX9_armsOf_45 : decode cX9_armsOf 45 = .ok (.invokevirtual 65, 3) := by decide +kernel
theorem dX9_armsOf_48 : decode cX9_armsOf 48 = .ok (.iand, 1) := by decide +kernel
theorem dX9_armsOf_49 : decode cX9_armsOf 49 = .ok (.istore_n 2, 1) := by decide +kernel
theorem dX9_armsOf_50 : decode cX9_armsOf 50 = .ok (.iload_n 3, 1) := by decide +kernel
theorem dX9_armsOf_51 : decode cX9_armsOf 51 = .ok (.iload 5, 2) := by decide +kernel
theorem dX9_armsOf_53 : decode cX9_armsOf 53 = .ok (.idiv, 1) := by decide +kernel
theorem dX9_armsOf_54 : decode cX9_armsOf 54 = .ok (.istore_n 3, 1) := by decide +kernel
theorem dX9_armsOf_55 : decode cX9_armsOf 55 = .ok (.iinc 4 (-1), 3) := by decide +kernel
theorem dX9_armsOf_58 : decode cX9_armsOf 58 = .ok (.goto (-39), 3) := by decide +kernel
theorem dX9_armsOf_61 : decode cX9_armsOf 61 = .ok (.iload_n 2, 1) := by decide +kernel
theorem dX9_armsOf_62 : decode cX9_armsOf 62 = .ok (.ireturn, 1) := by decide +kernel
theorem dX10_init_0 : decode cX10_init 0 = .ok (.aload_n 0, 1) := by decide +kernel
theorem dX10_init_1 : decode cX10_init 1 = .ok (.invokespecial 3, 3) := by decide +kernel
theorem dX10_init_4 : decode cX10_init 4 = .ok (.aload_n 0, 1) := by decide +kernel
theorem dX10_init_5 : decode cX10_init 5 = .ok (.iconst 4, 1) := by decide +kernel
theorem dX10_init_6 : decode cX10_init 6 = .ok (.anewarray 9, 3) := by decide +kernel
theorem dX10_init_9 : decode cX10_init 9 = .ok (.putfield 11, 3) := by decide +kernel
theorem dX10_init_12 : decode cX10_init 12 = .ok (.aload_n 0, 1) := by decide +kernel
theorem dX10_init_13 : decode cX10_init 13 = .ok (.iconst 4, 1) := by decide +kernel
theorem dX10_init_14 : decode cX10_init 14 = .ok (.anewarray 9, 3) := by decide +kernel
theorem dX10_init_17 : decode cX10_init 17 = .ok (.putfield 17, 3) := by decide +kernel
theorem dX10_init_20 : decode cX10_init 20 = .ok (.aload_n 0, 1) := by decide +kernel
theorem dX10_init_21 : decode cX10_init 21 = .ok (.ldc 20, 2) := by decide +kernel
theorem dX10_init_23 : decode cX10_init 23 = .ok (.newarray .long, 2) := by decide +kernel
theorem dX10_init_25 : decode cX10_init 25 = .ok (.putfield 21, 3) := by decide +kernel
theorem dX10_init_28 : decode cX10_init 28 = .ok (.aload_n 0, 1) := by decide +kernel
theorem dX10_init_29 : decode cX10_init 29 = .ok (.sipush 999, 3) := by decide +kernel
theorem dX10_init_32 : decode cX10_init 32 = .ok (.newarray .int, 2) := by decide +kernel
theorem dX10_init_34 : decode cX10_init 34 = .ok (.putfield 25, 3) := by decide +kernel
theorem dX10_init_37 : decode cX10_init 37 = .ok (.aload_n 0, 1) := by decide +kernel
theorem dX10_init_38 : decode cX10_init 38 = .ok (.aload_n 1, 1) := by decide +kernel
theorem dX10_init_39 : decode cX10_init 39 = .ok (.putfield 29, 3) := by decide +kernel
theorem dX10_init_42 : decode cX10_init 42 = .ok (.aload_n 0, 1) := by decide +kernel
theorem dX10_init_43 : decode cX10_init 43 = .ok (.aload_n 2, 1) := by decide +kernel
theorem dX10_init_44 : decode cX10_init 44 = .ok (.putfield 33, 3) := by decide +kernel
theorem dX10_init_47 : decode cX10_init 47 = .ok (.aload_n 0, 1) := by decide +kernel
theorem dX10_init_48 : decode cX10_init 48 = .ok (.aload_n 3, 1) := by decide +kernel
theorem dX10_init_49 : decode cX10_init 49 = .ok (.putfield 37, 3) := by decide +kernel
theorem dX10_init_52 : decode cX10_init 52 = .ok (.iconst 0, 1) := by decide +kernel
theorem dX10_init_53 : decode cX10_init 53 = .ok (.istore 4, 2) := by decide +kernel
theorem dX10_init_55 : decode cX10_init 55 = .ok (.iload 4, 2) := by decide +kernel
theorem dX10_init_57 : decode cX10_init 57 = .ok (.iconst 4, 1) := by decide +kernel
theorem dX10_init_58 : decode cX10_init 58 = .ok (.if_icmp .ge 45, 3) := by decide +kernel
theorem dX10_init_61 : decode cX10_init 61 = .ok (.aload_n 0, 1) := by decide +kernel
theorem dX10_init_62 : decode cX10_init 62 = .ok (.getfield 11, 3) := by decide +kernel
theorem dX10_init_65 : decode cX10_init 65 = .ok (.iload 4, 2) := by decide +kernel
theorem dX10_init_67 : decode cX10_init 67 = .ok (.new 9, 3) := by decide +kernel
theorem dX10_init_70 : decode cX10_init 70 = .ok (.dup, 1) := by decide +kernel
theorem dX10_init_71 : decode cX10_init 71 = .ok (.sipush 2048, 3) := by decide +kernel
theorem dX10_init_74 : decode cX10_init 74 = .ok (.aload_n 3, 1) := by decide +kernel
theorem dX10_init_75 : decode cX10_init 75 = .ok (.invokespecial 41, 3) := by decide +kernel
theorem dX10_init_78 : decode cX10_init 78 = .ok (.aastore, 1) := by decide +kernel
theorem dX10_init_79 : decode cX10_init 79 = .ok (.aload_n 0, 1) := by decide +kernel
theorem dX10_init_80 : decode cX10_init 80 = .ok (.getfield 17, 3) := by decide +kernel
theorem dX10_init_83 : decode cX10_init 83 = .ok (.iload 4, 2) := by decide +kernel
theorem dX10_init_85 : decode cX10_init 85 = .ok (.new 9, 3) := by decide +kernel
theorem dX10_init_88 : decode cX10_init 88 = .ok (.dup, 1) := by decide +kernel
theorem dX10_init_89 : decode cX10_init 89 = .ok (.sipush 2048, 3) := by decide +kernel
theorem dX10_init_92 : decode cX10_init 92 = .ok (.aload_n 3, 1) := by decide +kernel
theorem dX10_init_93 : decode cX10_init 93 = .ok (.invokespecial 41, 3) := by decide +kernel
theorem dX10_init_96 : decode cX10_init 96 = .ok (.aastore, 1) := by decide +kernel
theorem dX10_init_97 : decode cX10_init 97 = .ok (.iinc 4 1, 3) := by decide +kernel
theorem dX10_init_100 : decode cX10_init 100 = .ok (.goto (-45), 3) := by decide +kernel
theorem dX10_init_103 : decode cX10_init 103 = .ok (.return_, 1) := by decide +kernel
theorem dX10_setTable_0 : decode cX10_setTable 0 = .ok (.aload_n 0, 1) := by decide +kernel
theorem dX10_setTable_1 : decode cX10_setTable 1 = .ok (.aload_n 1, 1) := by decide +kernel
theorem dX10_setTable_2 : decode cX10_setTable 2 = .ok (.putfield 29, 3) := by decide +kernel
theorem dX10_setTable_5 : decode cX10_setTable 5 = .ok (.iconst 0, 1) := by decide +kernel
theorem dX10_setTable_6 : decode cX10_setTable 6 = .ok (.istore_n 2, 1) := by decide +kernel
theorem dX10_setTable_7 : decode cX10_setTable 7 = .ok (.iload_n 2, 1) := by decide +kernel
theorem dX10_setTable_8 : decode cX10_setTable 8 = .ok (.aload_n 0, 1) := by decide +kernel
theorem dX10_setTable_9 : decode cX10_setTable 9 = .ok (.getfield 29, 3) := by decide +kernel
theorem dX10_setTable_12 : decode cX10_setTable 12 = .ok (.getfield 44, 3) := by decide +kernel
theorem dX10_setTable_15 : decode cX10_setTable 15 = .ok (.if_icmp .ge 63, 3) := by decide +kernel
theorem dX10_setTable_18 : decode cX10_setTable 18 = .ok (.iload_n 2, 1) := by decide +kernel
theorem dX10_setTable_19 : decode cX10_setTable 19 = .ok (.iconst 4, 1) := by decide +kernel
theorem dX10_setTable_20 : decode cX10_setTable 20 = .ok (.if_icmp .ge 58, 3) := by decide +kernel
theorem dX10_setTable_23 : decode cX10_setTable 23 = .ok (.aload_n 0, 1) := by decide +kernel
theorem dX10_setTable_24 : decode cX10_setTable 24 = .ok (.getfield 11, 3) := by decide +kernel
theorem dX10_setTable_27 : decode cX10_setTable 27 = .ok (.iload_n 2, 1) := by decide +kernel
theorem dX10_setTable_28 : decode cX10_setTable 28 = .ok (.aaload, 1) := by decide +kernel
theorem dX10_setTable_29 : decode cX10_setTable 29 = .ok (.invokevirtual 50, 3) := by decide +kernel
theorem dX10_setTable_32 : decode cX10_setTable 32 = .ok (.iconst 0, 1) := by decide +kernel
theorem dX10_setTable_33 : decode cX10_setTable 33 = .ok (.istore_n 3, 1) := by decide +kernel
theorem dX10_setTable_34 : decode cX10_setTable 34 = .ok (.iload_n 3, 1) := by decide +kernel
theorem dX10_setTable_35 : decode cX10_setTable 35 = .ok (.aload_n 0, 1) := by decide +kernel
theorem dX10_setTable_36 : decode cX10_setTable 36 = .ok (.getfield 29, 3) := by decide +kernel
theorem dX10_setTable_39 : decode cX10_setTable 39 = .ok (.getfield 53, 3) := by decide +kernel
theorem dX10_setTable_42 : decode cX10_setTable 42 = .ok (.iload_n 2, 1) := by decide +kernel
theorem dX10_setTable_43 : decode cX10_setTable 43 = .ok (.iaload, 1) := by decide +kernel
theorem dX10_setTable_44 : decode cX10_setTable 44 = .ok (.if_icmp .ge 28, 3) := by decide +kernel
theorem dX10_setTable_47 : decode cX10_setTable 47 = .ok (.aload_n 0, 1) := by decide +kernel
theorem dX10_setTable_48 : decode cX10_setTable 48 = .ok (.getfield 11, 3) := by decide +kernel
theorem dX10_setTable_51 : decode cX10_setTable 51 = .ok (.iload_n 2, 1) := by decide +kernel
theorem dX10_setTable_52 : decode cX10_setTable 52 = .ok (.aaload, 1) := by decide +kernel
theorem dX10_setTable_53 : decode cX10_setTable 53 = .ok (.aload_n 0, 1) := by decide +kernel
theorem dX10_setTable_54 : decode cX10_setTable 54 = .ok (.getfield 29, 3) := by decide +kernel
end
section
theorem dX10_setTable_57 : decode cX10_setTable 57 = .ok (.iload_n 2, 1) := by decide +kernel
theorem dX10_setTable_58 : decode cX10_setTable 58 = .ok (.iload_n 3, 1) := by decide +kernel
theorem dX10_setTable_59 : decode cX10_setTable 59 = .ok (.invokevirtual 56, 3) := by decide +kernel
theorem dX10_setTable_62 : decode cX10_setTable 62 = .ok (.iconst 1, 1) := by decide +kernel
theorem dX10_setTable_63 : decode cX10_setTable 63 = .ok (.invokevirtual 60, 3) := by decide +kernel
theorem dX10_setTable_66 : decode cX10_setTable 66 = .ok (.iinc 3 1, 3) := by decide +kernel
theorem dX10_setTable_69 : decode cX10_setTable 69 = .ok (.goto (-35), 3) := by decide +kernel
theorem dX10_setTable_72 : decode cX10_setTable 72 = .ok (.iinc 2 1, 3) := by decide +kernel
theorem dX10_setTable_75 : decode cX10_setTable 75 = .ok (.goto (-68), 3) := by decide +kernel
theorem dX10_setTable_78 : decode cX10_setTable 78 = .ok (.return_, 1) := by decide +kernel
theorem dX10_allColumns_0 : decode cX10_allColumns 0 = .ok (.iconst 1, 1) := by decide +kernel
theorem dX10_allColumns_1 : decode cX10_allColumns 1 = .ok (.aload_n 0, 1) := by decide +kernel
theorem dX10_allColumns_2 : decode cX10_allColumns 2 = .ok (.getfield 29, 3) := by decide +kernel
theorem dX10_allColumns_5 : decode cX10_allColumns 5 = .ok (.getfield 44, 3) := by decide +kernel
theorem dX10_allColumns_8 : decode cX10_allColumns 8 = .ok (.ishl, 1) := by decide +kernel
theorem dX10_allColumns_9 : decode cX10_allColumns 9 = .ok (.iconst 1, 1) := by decide +kernel
theorem dX10_allColumns_10 : decode cX10_allColumns 10 = .ok (.isub, 1) := by decide +kernel
theorem dX10_allColumns_11 : decode cX10_allColumns 11 = .ok (.ireturn, 1) := by decide +kernel
theorem dX10_columnAsked_0 : decode cX10_columnAsked 0 = .ok (.aload_n 0, 1) := by decide +kernel
theorem dX10_columnAsked_1 : decode cX10_columnAsked 1 = .ok (.getfield 33, 3) := by decide +kernel
theorem dX10_columnAsked_4 : decode cX10_columnAsked 4 = .ok (.iload_n 1, 1) := by decide +kernel
theorem dX10_columnAsked_5 : decode cX10_columnAsked 5 = .ok (.invokevirtual 64, 3) := by decide +kernel
theorem dX10_columnAsked_8 : decode cX10_columnAsked 8 = .ok (.istore_n 3, 1) := by decide +kernel
theorem dX10_columnAsked_9 : decode cX10_columnAsked 9 = .ok (.iconst (-1), 1) := by decide +kernel
theorem dX10_columnAsked_10 : decode cX10_columnAsked 10 = .ok (.istore 4, 2) := by decide +kernel
theorem dX10_columnAsked_12 : decode cX10_columnAsked 12 = .ok (.iconst 0, 1) := by decide +kernel
theorem dX10_columnAsked_13 : decode cX10_columnAsked 13 = .ok (.istore 5, 2) := by decide +kernel
theorem dX10_columnAsked_15 : decode cX10_columnAsked 15 = .ok (.iconst 0, 1) := by decide +kernel
theorem dX10_columnAsked_16 : decode cX10_columnAsked 16 = .ok (.istore 6, 2) := by decide +kernel
theorem dX10_columnAsked_18 : decode cX10_columnAsked 18 = .ok (.iload_n 3, 1) := by decide +kernel
theorem dX10_columnAsked_19 : decode cX10_columnAsked 19 = .ok (.iconst (-1), 1) := by decide +kernel
theorem dX10_columnAsked_20 : decode cX10_columnAsked 20 = .ok (.if_icmp .eq 77, 3) := by decide +kernel
theorem dX10_columnAsked_23 : decode cX10_columnAsked 23 = .ok (.iload 6, 2) := by decide +kernel
theorem dX10_columnAsked_25 : decode cX10_columnAsked 25 = .ok (.aload_n 0, 1) := by decide +kernel
theorem dX10_columnAsked_26 : decode cX10_columnAsked 26 = .ok (.getfield 29, 3) := by decide +kernel
theorem dX10_columnAsked_29 : decode cX10_columnAsked 29 = .ok (.getfield 44, 3) := by decide +kernel
theorem dX10_columnAsked_32 : decode cX10_columnAsked 32 = .ok (.if_icmp .ge 65, 3) := by decide +kernel
theorem dX10_columnAsked_35 : decode cX10_columnAsked 35 = .ok (.iload_n 2, 1) := by decide +kernel
theorem dX10_columnAsked_36 : decode cX10_columnAsked 36 = .ok (.iload 6, 2) := by decide +kernel
theorem dX10_columnAsked_38 : decode cX10_columnAsked 38 = .ok (.invokestatic 70, 3) := by decide +kernel
theorem dX10_columnAsked_41 : decode cX10_columnAsked 41 = .ok (.ifCond .eq 50, 3) := by decide +kernel
theorem dX10_columnAsked_44 : decode cX10_columnAsked 44 = .ok (.aload_n 0, 1) := by decide +kernel
theorem dX10_columnAsked_45 : decode cX10_columnAsked 45 = .ok (.getfield 29, 3) := by decide +kernel
theorem dX10_columnAsked_48 : decode cX10_columnAsked 48 = .ok (.getfield 74, 3) := by decide +kernel
theorem dX10_columnAsked_51 : decode cX10_columnAsked 51 = .ok (.iload 6, 2) := by decide +kernel
theorem dX10_columnAsked_53 : decode cX10_columnAsked 53 = .ok (.iaload, 1) := by decide +kernel
theorem dX10_columnAsked_54 : decode cX10_columnAsked 54 = .ok (.iload_n 3, 1) := by decide +kernel
theorem dX10_columnAsked_55 : decode cX10_columnAsked 55 = .ok (.invokestatic 70, 3) := by decide +kernel
theorem dX10_columnAsked_58 : decode cX10_columnAsked 58 = .ok (.ifCond .ne 33, 3) := by decide +kernel
theorem dX10_columnAsked_61 : decode cX10_columnAsked 61 = .ok (.aload_n 0, 1) := by decide +kernel
theorem dX10_columnAsked_62 : decode cX10_columnAsked 62 = .ok (.iload_n 1, 1) := by decide +kernel
theorem dX10_columnAsked_63 : decode cX10_columnAsked 63 = .ok (.iload 6, 2) := by decide +kernel
theorem dX10_columnAsked_65 : decode cX10_columnAsked 65 = .ok (.invokevirtual 77, 3) := by decide +kernel
theorem dX10_columnAsked_68 : decode cX10_columnAsked 68 = .ok (.istore 7, 2) := by decide +kernel
theorem dX10_columnAsked_70 : decode cX10_columnAsked 70 = .ok (.iload 4, 2) := by decide +kernel
theorem dX10_columnAsked_72 : decode cX10_columnAsked 72 = .ok (.iconst (-1), 1) := by decide +kernel
theorem dX10_columnAsked_73 : decode cX10_columnAsked 73 = .ok (.if_icmp .eq 10, 3) := by decide +kernel
theorem dX10_columnAsked_76 : decode cX10_columnAsked 76 = .ok (.iload 7, 2) := by decide +kernel
theorem dX10_columnAsked_78 : decode cX10_columnAsked 78 = .ok (.iload 5, 2) := by decide +kernel
theorem dX10_columnAsked_80 : decode cX10_columnAsked 80 = .ok (.if_icmp .ge 11, 3) := by decide +kernel
theorem dX10_columnAsked_83 : decode cX10_columnAsked 83 = .ok (.iload 6, 2) := by decide +kernel
theorem dX10_columnAsked_85 : decode cX10_columnAsked 85 = .ok (.istore 4, 2) := by decide +kernel
theorem dX10_columnAsked_87 : decode cX10_columnAsked 87 = .ok (.iload 7, 2) := by decide +kernel
theorem dX10_columnAsked_89 : decode cX10_columnAsked 89 = .ok (.istore 5, 2) := by decide +kernel
theorem dX10_columnAsked_91 : decode cX10_columnAsked 91 = .ok (.iinc 6 1, 3) := by decide +kernel
theorem dX10_columnAsked_94 : decode cX10_columnAsked 94 = .ok (.goto (-76), 3) := by decide +kernel
theorem dX10_columnAsked_97 : decode cX10_columnAsked 97 = .ok (.iload 4, 2) := by decide +kernel
theorem dX10_columnAsked_99 : decode cX10_columnAsked 99 = .ok (.ireturn, 1) := by decide +kernel
theorem dX10_costOf_0 : decode cX10_costOf 0 = .ok (.aload_n 0, 1) := by decide +kernel
theorem dX10_costOf_1 : decode cX10_costOf 1 = .ok (.getfield 80, 3) := by decide +kernel
theorem dX10_costOf_4 : decode cX10_costOf 4 = .ok (.tableswitch 50 1 3 #[28, 36, 43], 28) := by decide +kernel
theorem dX10_costOf_32 : decode cX10_costOf 32 = .ok (.aload_n 0, 1) := by decide +kernel
theorem dX10_costOf_33 : decode cX10_costOf 33 = .ok (.iload_n 1, 1) := by decide +kernel
theorem dX10_costOf_34 : decode cX10_costOf 34 = .ok (.iload_n 2, 1) := by decide +kernel
theorem dX10_costOf_35 : decode cX10_costOf 35 = .ok (.invokevirtual 83, 3) := by decide +kernel
theorem dX10_costOf_38 : decode cX10_costOf 38 = .ok (.ineg, 1) := by decide +kernel
theorem dX10_costOf_39 : decode cX10_costOf 39 = .ok (.ireturn, 1) := by decide +kernel
theorem dX10_costOf_40 : decode cX10_costOf 40 = .ok (.aload_n 0, 1) := by decide +kernel
theorem dX10_costOf_41 : decode cX10_costOf 41 = .ok (.iload_n 1, 1) := by decide +kernel
theorem dX10_costOf_42 : decode cX10_costOf 42 = .ok (.iload_n 2, 1) := by decide +kernel
theorem dX10_costOf_43 : decode cX10_costOf 43 = .ok (.invokevirtual 86, 3) := by decide +kernel
theorem dX10_costOf_46 : decode cX10_costOf 46 = .ok (.ireturn, 1) := by decide +kernel
theorem dX10_costOf_47 : decode cX10_costOf 47 = .ok (.aload_n 0, 1) := by decide +kernel
theorem dX10_costOf_48 : decode cX10_costOf 48 = .ok (.iload_n 1, 1) := by decide +kernel
theorem dX10_costOf_49 : decode cX10_costOf 49 = .ok (.iload_n 2, 1) := by decide +kernel
theorem dX10_costOf_50 : decode cX10_costOf 50 = .ok (.invokevirtual 89, 3) := by decide +kernel
theorem dX10_costOf_53 : decode cX10_costOf 53 = .ok (.ireturn, 1) := by decide +kernel
theorem dX10_costOf_54 : decode cX10_costOf 54 = .ok (.iconst 0, 1) := by decide +kernel
theorem dX10_costOf_55 : decode cX10_costOf 55 = .ok (.ireturn, 1) := by decide +kernel
theorem dX10_notFullInRow_0 : decode cX10_notFullInRow 0 = .ok (.iconst 0, 1) := by decide +kernel
theorem dX10_notFullInRow_1 : decode cX10_notFullInRow 1 = .ok (.istore_n 3, 1) := by decide +kernel
theorem dX10_notFullInRow_2 : decode cX10_notFullInRow 2 = .ok (.iconst 0, 1) := by decide +kernel
theorem dX10_notFullInRow_3 : decode cX10_notFullInRow 3 = .ok (.istore 4, 2) := by decide +kernel
theorem dX10_notFullInRow_5 : decode cX10_notFullInRow 5 = .ok (.iload 4, 2) := by decide +kernel
theorem dX10_notFullInRow_7 : decode cX10_notFullInRow 7 = .ok (.aload_n 0, 1) := by decide +kernel
theorem dX10_notFullInRow_8 : decode cX10_notFullInRow 8 = .ok (.getfield 33, 3) := by decide +kernel
theorem dX10_notFullInRow_11 : decode cX10_notFullInRow 11 = .ok (.getfield 92, 3) := by decide +kernel
theorem dX10_notFullInRow_14 : decode cX10_notFullInRow 14 = .ok (.if_icmp .ge 52, 3) := by decide +kernel
theorem dX10_notFullInRow_17 : decode cX10_notFullInRow 17 = .ok (.aload_n 0, 1) := by decide +kernel
theorem dX10_notFullInRow_18 : decode cX10_notFullInRow 18 = .ok (.getfield 33, 3) := by decide +kernel
theorem dX10_notFullInRow_21 : decode cX10_notFullInRow 21 = .ok (.getfield 95, 3) := by decide +kernel
theorem dX10_notFullInRow_24 : decode cX10_notFullInRow 24 = .ok (.iload 4, 2) := by decide +kernel
theorem dX10_notFullInRow_26 : decode cX10_notFullInRow 26 = .ok (.iaload, 1) := by decide +kernel
theorem dX10_notFullInRow_27 : decode cX10_notFullInRow 27 = .ok (.istore 5, 2) := by decide +kernel
theorem dX10_notFullInRow_29 : decode cX10_notFullInRow 29 = .ok (.iload_n 1, 1) := by decide +kernel
theorem dX10_notFullInRow_30 : decode cX10_notFullInRow 30 = .ok (.iload 5, 2) := by decide +kernel
theorem dX10_notFullInRow_32 : decode cX10_notFullInRow 32 = .ok (.invokestatic 70, 3) := by decide +kernel
theorem dX10_notFullInRow_35 : decode cX10_notFullInRow 35 = .ok (.ifCond .eq 25, 3) := by decide +kernel
theorem dX10_notFullInRow_38 : decode cX10_notFullInRow 38 = .ok (.aload_n 0, 1) := by decide +kernel
theorem dX10_notFullInRow_39 : decode cX10_notFullInRow 39 = .ok (.getfield 29, 3) := by decide +kernel
theorem dX10_notFullInRow_42 : decode cX10_notFullInRow 42 = .ok (.getfield 74, 3) := by decide +kernel
theorem dX10_notFullInRow_45 : decode cX10_notFullInRow 45 = .ok (.iload_n 2, 1) := by decide +kernel
theorem dX10_notFullInRow_46 : decode cX10_notFullInRow 46 = .ok (.iaload, 1) := by decide +kernel
theorem dX10_notFullInRow_47 : decode cX10_notFullInRow 47 = .ok (.iload 5, 2) := by decide +kernel
theorem dX10_notFullInRow_49 : decode cX10_notFullInRow 49 = .ok (.invokestatic 70, 3) := by decide +kernel
theorem dX10_notFullInRow_52 : decode cX10_notFullInRow 52 = .ok (.ifCond .eq 5, 3) := by decide +kernel
theorem dX10_notFullInRow_55 : decode cX10_notFullInRow 55 = .ok (.iload_n 3, 1) := by decide +kernel
theorem dX10_notFullInRow_56 : decode cX10_notFullInRow 56 = .ok (.ireturn, 1) := by decide +kernel
theorem dX10_notFullInRow_57 : decode cX10_notFullInRow 57 = .ok (.iinc 3 1, 3) := by decide +kernel
theorem dX10_notFullInRow_60 : decode cX10_notFullInRow 60 = .ok (.iinc 4 1, 3) := by decide +kernel
theorem dX10_notFullInRow_63 : decode cX10_notFullInRow 63 = .ok (.goto (-58), 3) := by decide +kernel
theorem dX10_notFullInRow_66 : decode cX10_notFullInRow 66 = .ok (.iload_n 3, 1) := by decide +kernel
theorem dX10_notFullInRow_67 : decode cX10_notFullInRow 67 = .ok (.ireturn, 1) := by decide +kernel
theorem dX10_countBranches_0 : decode cX10_countBranches 0 = .ok (.iconst 0, 1) := by decide +kernel
theorem dX10_countBranches_1 : decode cX10_countBranches 1 = .ok (.istore_n 3, 1) := by decide +kernel
theorem dX10_countBranches_2 : decode cX10_countBranches 2 = .ok (.aload_n 0, 1) := by decide +kernel
theorem dX10_countBranches_3 : decode cX10_countBranches 3 = .ok (.getfield 37, 3) := by decide +kernel
theorem dX10_countBranches_6 : decode cX10_countBranches 6 = .ok (.invokevirtual 98, 3) := by decide +kernel
theorem dX10_countBranches_9 : decode cX10_countBranches 9 = .ok (.iconst 0, 1) := by decide +kernel
theorem dX10_countBranches_10 : decode cX10_countBranches 10 = .ok (.istore 4, 2) := by decide +kernel
theorem dX10_countBranches_12 : decode cX10_countBranches 12 = .ok (.iload 4, 2) := by decide +kernel
theorem dX10_countBranches_14 : decode cX10_countBranches 14 = .ok (.aload_n 0, 1) := by decide +kernel
theorem dX10_countBranches_15 : decode cX10_countBranches 15 = .ok (.getfield 11, 3) := by decide +kernel
theorem dX10_countBranches_18 : decode cX10_countBranches 18 = .ok (.iload_n 2, 1) := by decide +kernel
theorem dX10_countBranches_19 : decode cX10_countBranches 19 = .ok (.aaload, 1) := by decide +kernel
theorem dX10_countBranches_20 : decode cX10_countBranches 20 = .ok (.getfield 103, 3) := by decide +kernel
theorem dX10_countBranches_23 : decode cX10_countBranches 23 = .ok (.if_icmp .ge 36, 3) := by decide +kernel
theorem dX10_countBranches_26 : decode cX10_countBranches 26 = .ok (.aload_n 0, 1) := by decide +kernel
theorem dX10_countBranches_27 : decode cX10_countBranches 27 = .ok (.getfield 37, 3) := by decide +kernel
theorem dX10_countBranches_30 : decode cX10_countBranches 30 = .ok (.aload_n 0, 1) := by decide +kernel
theorem dX10_countBranches_31 : decode cX10_countBranches 31 = .ok (.getfield 11, 3) := by decide +kernel
theorem dX10_countBranches_34 : decode cX10_countBranches 34 = .ok (.iload_n 2, 1) := by decide +kernel
theorem dX10_countBranches_35 : decode cX10_countBranches 35 = .ok (.aaload, 1) := by decide +kernel
theorem dX10_countBranches_36 : decode cX10_countBranches 36 = .ok (.getfield 104, 3) := by decide +kernel
theorem dX10_countBranches_39 : decode cX10_countBranches 39 = .ok (.iload 4, 2) := by decide +kernel
theorem dX10_countBranches_41 : decode cX10_countBranches 41 = .ok (.iaload, 1) := by decide +kernel
theorem dX10_countBranches_42 : decode cX10_countBranches 42 = .ok (.iload_n 1, 1) := by decide +kernel
theorem dX10_countBranches_43 : decode cX10_countBranches 43 = .ok (.iand, 1) := by decide +kernel
theorem dX10_countBranches_44 : decode cX10_countBranches 44 = .ok (.invokevirtual 107, 3) := by decide +kernel
theorem dX10_countBranches_47 : decode cX10_countBranches 47 = .ok (.ifCond .eq 6, 3) := by decide +kernel
theorem dX10_countBranches_50 : decode cX10_countBranches 50 = .ok (.iinc 3 1, 3) := by decide +kernel
theorem dX10_countBranches_53 : decode cX10_countBranches 53 = .ok (.iinc 4 1, 3) := by decide +kernel
theorem dX10_countBranches_56 : decode cX10_countBranches 56 = .ok (.goto (-44), 3) := by decide +kernel
theorem dX10_countBranches_59 : decode cX10_countBranches 59 = .ok (.iload_n 3, 1) := by decide +kernel
theorem dX10_countBranches_60 : decode cX10_countBranches 60 = .ok (.ireturn, 1) := by decide +kernel
theorem dX10_mostArms_0 : decode cX10_mostArms 0 = .ok (.iconst 0, 1) := by decide +kernel
theorem dX10_mostArms_1 : decode cX10_mostArms 1 = .ok (.istore_n 3, 1) := by decide +kernel
theorem dX10_mostArms_2 : decode cX10_mostArms 2 = .ok (.iconst 0, 1) := by decide +kernel
theorem dX10_mostArms_3 : decode cX10_mostArms 3 = .ok (.istore 4, 2) := by decide +kernel
theorem dX10_mostArms_5 : decode cX10_mostArms 5 = .ok (.iload 4, 2) := by decide +kernel
theorem dX10_mostArms_7 : decode cX10_mostArms 7 = .ok (.aload_n 0, 1) := by decide +kernel
theorem dX10_mostArms_8 : decode cX10_mostArms 8 = .ok (.getfield 11, 3) := by decide +kernel
theorem dX10_mostArms_11 : decode cX10_mostArms 11 = .ok (.iload_n 2, 1) := by decide +kernel
theorem dX10_mostArms_12 : decode cX10_mostArms 12 = .ok (.aaload, 1) := by decide +kernel
theorem dX10_mostArms_13 : decode cX10_mostArms 13 = .ok (.getfield 103, 3) := by decide +kernel
theorem dX10_mostArms_16 : decode cX10_mostArms 16 = .ok (.if_icmp .ge 31, 3) := by decide +kernel
theorem dX10_mostArms_19 : decode cX10_mostArms 19 = .ok (.iload_n 3, 1) := by decide +kernel
theorem dX10_mostArms_20 : decode cX10_mostArms 20 = .ok (.aload_n 0, 1) := by decide +kernel
theorem dX10_mostArms_21 : decode cX10_mostArms 21 = .ok (.getfield 11, 3) := by decide +kernel
theorem dX10_mostArms_24 : decode cX10_mostArms 24 = .ok (.iload_n 2, 1) := by decide +kernel
theorem dX10_mostArms_25 : decode cX10_mostArms 25 = .ok (.aaload, 1) := by decide +kernel
theorem dX10_mostArms_26 : decode cX10_mostArms 26 = .ok (.getfield 104, 3) := by decide +kernel
theorem dX10_mostArms_29 : decode cX10_mostArms 29 = .ok (.iload 4, 2) := by decide +kernel
theorem dX10_mostArms_31 : decode cX10_mostArms 31 = .ok (.iaload, 1) := by decide +kernel
theorem dX10_mostArms_32 : decode cX10_mostArms 32 = .ok (.iload_n 1, 1) := by decide +kernel
theorem dX10_mostArms_33 : decode cX10_mostArms 33 = .ok (.iand, 1) := by decide +kernel
theorem dX10_mostArms_34 : decode cX10_mostArms 34 = .ok (.invokestatic 111, 3) := by decide +kernel
theorem dX10_mostArms_37 : decode cX10_mostArms 37 = .ok (.invokestatic 116, 3) := by decide +kernel
theorem dX10_mostArms_40 : decode cX10_mostArms 40 = .ok (.istore_n 3, 1) := by decide +kernel
theorem dX10_mostArms_41 : decode cX10_mostArms 41 = .ok (.iinc 4 1, 3) := by decide +kernel
theorem dX10_mostArms_44 : decode cX10_mostArms 44 = .ok (.goto (-39), 3) := by decide +kernel
theorem dX10_mostArms_47 : decode cX10_mostArms 47 = .ok (.iload_n 3, 1) := by decide +kernel
theorem dX10_mostArms_48 : decode cX10_mostArms 48 = .ok (.ireturn, 1) := by decide +kernel
theorem dX10_split_0 : decode cX10_split 0 = .ok (.iload_n 2, 1) := by decide +kernel
theorem dX10_split_1 : decode cX10_split 1 = .ok (.invokestatic 111, 3) := by decide +kernel
theorem dX10_split_4 : decode cX10_split 4 = .ok (.iconst 1, 1) := by decide +kernel
theorem dX10_split_5 : decode cX10_split 5 = .ok (.isub, 1) := by decide +kernel
theorem dX10_split_6 : decode cX10_split 6 = .ok (.istore 4, 2) := by decide +kernel
theorem dX10_split_8 : decode cX10_split 8 = .ok (.aload_n 0, 1) := by decide +kernel
theorem dX10_split_9 : decode cX10_split 9 = .ok (.getfield 17, 3) := by decide +kernel
theorem dX10_split_12 : decode cX10_split 12 = .ok (.iconst 0, 1) := by decide +kernel
theorem dX10_split_13 : decode cX10_split 13 = .ok (.iload 4, 2) := by decide +kernel
theorem dX10_split_15 : decode cX10_split 15 = .ok (.iconst 3, 1) := by decide +kernel
theorem dX10_split_16 : decode cX10_split 16 = .ok (.invokestatic 121, 3) := by decide +kernel
theorem dX10_split_19 : decode cX10_split 19 = .ok (.invokestatic 116, 3) := by decide +kernel
theorem dX10_split_22 : decode cX10_split 22 = .ok (.aaload, 1) := by decide +kernel
theorem dX10_split_23 : decode cX10_split 23 = .ok (.astore 5, 2) := by decide +kernel
theorem dX10_split_25 : decode cX10_split 25 = .ok (.aload 5, 2) := by decide +kernel
theorem dX10_split_27 : decode cX10_split 27 = .ok (.invokevirtual 50, 3) := by decide +kernel
theorem dX10_split_30 : decode cX10_split 30 = .ok (.aload 5, 2) := by decide +kernel
theorem dX10_split_32 : decode cX10_split 32 = .ok (.aload_n 0, 1) := by decide +kernel
theorem dX10_split_33 : decode cX10_split 33 = .ok (.getfield 11, 3) := by decide +kernel
theorem dX10_split_36 : decode cX10_split 36 = .ok (.iload_n 3, 1) := by decide +kernel
theorem dX10_split_37 : decode cX10_split 37 = .ok (.aaload, 1) := by decide +kernel
theorem dX10_split_38 : decode cX10_split 38 = .ok (.iload_n 1, 1) := by decide +kernel
theorem dX10_split_39 : decode cX10_split 39 = .ok (.invokevirtual 124, 3) := by decide +kernel
theorem dX10_split_42 : decode cX10_split 42 = .ok (.aload 5, 2) := by decide +kernel
theorem dX10_split_44 : decode cX10_split 44 = .ok (.areturn, 1) := by decide +kernel
theorem dX10_rowsOf_0 : decode cX10_rowsOf 0 = .ok (.iconst 1, 1) := by decide +kernel
theorem dX10_rowsOf_1 : decode cX10_rowsOf 1 = .ok (.istore_n 2, 1) := by decide +kernel
theorem dX10_rowsOf_2 : decode cX10_rowsOf 2 = .ok (.iconst 0, 1) := by decide +kernel
theorem dX10_rowsOf_3 : decode cX10_rowsOf 3 = .ok (.istore_n 3, 1) := by decide +kernel
theorem dX10_rowsOf_4 : decode cX10_rowsOf 4 = .ok (.iload_n 3, 1) := by decide +kernel
theorem dX10_rowsOf_5 : decode cX10_rowsOf 5 = .ok (.aload_n 0, 1) := by decide +kernel
theorem dX10_rowsOf_6 : decode cX10_rowsOf 6 = .ok (.getfield 29, 3) := by decide +kernel
theorem dX10_rowsOf_9 : decode cX10_rowsOf 9 = .ok (.getfield 44, 3) := by decide +kernel
theorem dX10_rowsOf_12 : decode cX10_rowsOf 12 = .ok (.if_icmp .ge 29, 3) := by decide +kernel
theorem dX10_rowsOf_15 : decode cX10_rowsOf 15 = .ok (.iload_n 1, 1) := by decide +kernel
theorem dX10_rowsOf_16 : decode cX10_rowsOf 16 = .ok (.iload_n 3, 1) := by decide +kernel
theorem dX10_rowsOf_17 : decode cX10_rowsOf 17 = .ok (.invokestatic 70, 3) := by decide +kernel
theorem dX10_rowsOf_20 : decode cX10_rowsOf 20 = .ok (.ifCond .eq 15, 3) := by decide +kernel
theorem dX10_rowsOf_23 : decode cX10_rowsOf 23 = .ok (.iload_n 2, 1) := by decide +kernel
theorem dX10_rowsOf_24 : decode cX10_rowsOf 24 = .ok (.aload_n 0, 1) := by decide +kernel
theorem dX10_rowsOf_25 : decode cX10_rowsOf 25 = .ok (.getfield 29, 3) := by decide +kernel
theorem dX10_rowsOf_28 : decode cX10_rowsOf 28 = .ok (.getfield 53, 3) := by decide +kernel
theorem dX10_rowsOf_31 : decode cX10_rowsOf 31 = .ok (.iload_n 3, 1) := by decide +kernel
theorem dX10_rowsOf_32 : decode cX10_rowsOf 32 = .ok (.iaload, 1) := by decide +kernel
theorem dX10_rowsOf_33 : decode cX10_rowsOf 33 = .ok (.imul, 1) := by decide +kernel
theorem dX10_rowsOf_34 : decode cX10_rowsOf 34 = .ok (.istore_n 2, 1) := by decide +kernel
theorem dX10_rowsOf_35 : decode cX10_rowsOf 35 = .ok (.iinc 3 1, 3) := by decide +kernel
theorem dX10_rowsOf_38 : decode cX10_rowsOf 38 = .ok (.goto (-34), 3) := by decide +kernel
theorem dX10_rowsOf_41 : decode cX10_rowsOf 41 = .ok (.iload_n 2, 1) := by decide +kernel
theorem dX10_rowsOf_42 : decode cX10_rowsOf 42 = .ok (.ireturn, 1) := by decide +kernel
theorem dX10_measureAll_0 : decode cX10_measureAll 0 = .ok (.aload_n 0, 1) := by decide +kernel
theorem dX10_measureAll_1 : decode cX10_measureAll 1 = .ok (.aload_n 1, 1) := by decide +kernel
theorem dX10_measureAll_2 : decode cX10_measureAll 2 = .ok (.putfield 33, 3) := by decide +kernel
theorem dX10_measureAll_5 : decode cX10_measureAll 5 = .ok (.aload_n 0, 1) := by decide +kernel
theorem dX10_measureAll_6 : decode cX10_measureAll 6 = .ok (.iload_n 2, 1) := by decide +kernel
theorem dX10_measureAll_7 : decode cX10_measureAll 7 = .ok (.putfield 80, 3) := by decide +kernel
theorem dX10_measureAll_10 : decode cX10_measureAll 10 = .ok (.aload_n 0, 1) := by decide +kernel
theorem dX10_measureAll_11 : decode cX10_measureAll 11 = .ok (.dup, 1) := by decide +kernel
theorem dX10_measureAll_12 : decode cX10_measureAll 12 = .ok (.getfield 128, 3) := by decide +kernel
theorem dX10_measureAll_15 : decode cX10_measureAll 15 = .ok (.iconst 1, 1) := by decide +kernel
theorem dX10_measureAll_16 : decode cX10_measureAll 16 = .ok (.iadd, 1) := by decide +kernel
theorem dX10_measureAll_17 : decode cX10_measureAll 17 = .ok (.putfield 128, 3) := by decide +kernel
theorem dX10_measureAll_20 : decode cX10_measureAll 20 = .ok (.aload_n 0, 1) := by decide +kernel
theorem dX10_measureAll_21 : decode cX10_measureAll 21 = .ok (.iconst 0, 1) := by decide +kernel
theorem dX10_measureAll_22 : decode cX10_measureAll 22 = .ok (.putfield 131, 3) := by decide +kernel
theorem dX10_measureAll_25 : decode cX10_measureAll 25 = .ok (.aload_n 0, 1) := by decide +kernel
theorem dX10_measureAll_26 : decode cX10_measureAll 26 = .ok (.aload_n 0, 1) := by decide +kernel
theorem dX10_measureAll_27 : decode cX10_measureAll 27 = .ok (.getfield 33, 3) := by decide +kernel
theorem dX10_measureAll_30 : decode cX10_measureAll 30 = .ok (.invokevirtual 134, 3) := by decide +kernel
theorem dX10_measureAll_33 : decode cX10_measureAll 33 = .ok (.aload_n 0, 1) := by decide +kernel
theorem dX10_measureAll_34 : decode cX10_measureAll 34 = .ok (.invokevirtual 138, 3) := by decide +kernel
theorem dX10_measureAll_37 : decode cX10_measureAll 37 = .ok (.iconst 0, 1) := by decide +kernel
theorem dX10_measureAll_38 : decode cX10_measureAll 38 = .ok (.invokestatic 141, 3) := by decide +kernel
theorem dX10_measureAll_41 : decode cX10_measureAll 41 = .ok (.lreturn, 1) := by decide +kernel
theorem dX10_measure_0 : decode cX10_measure 0 = .ok (.iload_n 2, 1) := by decide +kernel
theorem dX10_measure_1 : decode cX10_measure 1 = .ok (.sipush 4096, 3) := by decide +kernel
theorem dX10_measure_4 : decode cX10_measure 4 = .ok (.imul, 1) := by decide +kernel
theorem dX10_measure_5 : decode cX10_measure 5 = .ok (.iload_n 1, 1) := by decide +kernel
theorem dX10_measure_6 : decode cX10_measure 6 = .ok (.iadd, 1) := by decide +kernel
theorem dX10_measure_7 : decode cX10_measure 7 = .ok (.istore 4, 2) := by decide +kernel
theorem dX10_measure_9 : decode cX10_measure 9 = .ok (.iload 4, 2) := by decide +kernel
theorem dX10_measure_11 : decode cX10_measure 11 = .ok (.ifCond .lt 16, 3) := by decide +kernel
theorem dX10_measure_14 : decode cX10_measure 14 = .ok (.iload 4, 2) := by decide +kernel
theorem dX10_measure_16 : decode cX10_measure 16 = .ok (.ldc 20, 2) := by decide +kernel
theorem dX10_measure_18 : decode cX10_measure 18 = .ok (.if_icmp .ge 9, 3) := by decide +kernel
theorem dX10_measure_21 : decode cX10_measure 21 = .ok (.iload_n 3, 1) := by decide +kernel
theorem dX10_measure_22 : decode cX10_measure 22 = .ok (.bipush 20, 2) := by decide +kernel
theorem dX10_measure_24 : decode cX10_measure 24 = .ok (.if_icmp .le 5, 3) := by decide +kernel
theorem dX10_measure_27 : decode cX10_measure 27 = .ok (.lconst 0, 1) := by decide +kernel
theorem dX10_measure_28 : decode cX10_measure 28 = .ok (.lreturn, 1) := by decide +kernel
theorem dX10_measure_29 : decode cX10_measure 29 = .ok (.aload_n 0, 1) := by decide +kernel
theorem dX10_measure_30 : decode cX10_measure 30 = .ok (.getfield 21, 3) := by decide +kernel
theorem dX10_measure_33 : decode cX10_measure 33 = .ok (.iload 4, 2) := by decide +kernel
theorem dX10_measure_35 : decode cX10_measure 35 = .ok (.laload, 1) := by decide +kernel
theorem dX10_measure_36 : decode cX10_measure 36 = .ok (.bipush 40, 2) := by decide +kernel
theorem dX10_measure_38 : decode cX10_measure 38 = .ok (.lushr, 1) := by decide +kernel
theorem dX10_measure_39 : decode cX10_measure 39 = .ok (.aload_n 0, 1) := by decide +kernel
theorem dX10_measure_40 : decode cX10_measure 40 = .ok (.getfield 128, 3) := by decide +kernel
theorem dX10_measure_43 : decode cX10_measure 43 = .ok (.i2l, 1) := by decide +kernel
theorem dX10_measure_44 : decode cX10_measure 44 = .ok (.lcmp, 1) := by decide +kernel
theorem dX10_measure_45 : decode cX10_measure 45 = .ok (.ifCond .ne 11, 3) := by decide +kernel
theorem dX10_measure_48 : decode cX10_measure 48 = .ok (.aload_n 0, 1) := by decide +kernel
theorem dX10_measure_49 : decode cX10_measure 49 = .ok (.getfield 21, 3) := by decide +kernel
theorem dX10_measure_52 : decode cX10_measure 52 = .ok (.iload 4, 2) := by decide +kernel
theorem dX10_measure_54 : decode cX10_measure 54 = .ok (.laload, 1) := by decide +kernel
theorem dX10_measure_55 : decode cX10_measure 55 = .ok (.lreturn, 1) := by decide +kernel
theorem dX10_measure_56 : decode cX10_measure 56 = .ok (.aload_n 0, 1) := by decide +kernel
theorem dX10_measure_57 : decode cX10_measure 57 = .ok (.dup, 1) := by decide +kernel
theorem dX10_measure_58 : decode cX10_measure 58 = .ok (.getfield 131, 3) := by decide +kernel
theorem dX10_measure_61 : decode cX10_measure 61 = .ok (.iconst 1, 1) := by decide +kernel
theorem dX10_measure_62 : decode cX10_measure 62 = .ok (.iadd, 1) := by decide +kernel
theorem dX10_measure_63 : decode cX10_measure 63 = .ok (.putfield 131, 3) := by decide +kernel
theorem dX10_measure_66 : decode cX10_measure 66 = .ok (.iconst 1, 1) := by decide +kernel
theorem dX10_measure_67 : decode cX10_measure 67 = .ok (.istore 5, 2) := by decide +kernel
theorem dX10_measure_69 : decode cX10_measure 69 = .ok (.iconst 0, 1) := by decide +kernel
theorem dX10_measure_70 : decode cX10_measure 70 = .ok (.istore 6, 2) := by decide +kernel
theorem dX10_measure_72 : decode cX10_measure 72 = .ok (.iconst 0, 1) := by decide +kernel
theorem dX10_measure_73 : decode cX10_measure 73 = .ok (.istore 7, 2) := by decide +kernel
theorem dX10_measure_75 : decode cX10_measure 75 = .ok (.aload_n 0, 1) := by decide +kernel
theorem dX10_measure_76 : decode cX10_measure 76 = .ok (.iload_n 1, 1) := by decide +kernel
theorem dX10_measure_77 : decode cX10_measure 77 = .ok (.iload_n 2, 1) := by decide +kernel
theorem dX10_measure_78 : decode cX10_measure 78 = .ok (.invokevirtual 145, 3) := by decide +kernel
theorem dX10_measure_81 : decode cX10_measure 81 = .ok (.istore 8, 2) := by decide +kernel
theorem dX10_measure_83 : decode cX10_measure 83 = .ok (.aload_n 0, 1) := by decide +kernel
theorem dX10_measure_84 : decode cX10_measure 84 = .ok (.getfield 33, 3) := by decide +kernel
theorem dX10_measure_87 : decode cX10_measure 87 = .ok (.iload_n 1, 1) := by decide +kernel
theorem dX10_measure_88 : decode cX10_measure 88 = .ok (.invokevirtual 64, 3) := by decide +kernel
theorem dX10_measure_91 : decode cX10_measure 91 = .ok (.istore 9, 2) := by decide +kernel
theorem dX10_measure_93 : decode cX10_measure 93 = .ok (.aload_n 0, 1) := by decide +kernel
theorem dX10_measure_94 : decode cX10_measure 94 = .ok (.getfield 29, 3) := by decide +kernel
theorem dX10_measure_97 : decode cX10_measure 97 = .ok (.iload 9, 2) := by decide +kernel
theorem dX10_measure_99 : decode cX10_measure 99 = .ok (.invokevirtual 148, 3) := by decide +kernel
theorem dX10_measure_102 : decode cX10_measure 102 = .ok (.istore 10, 2) := by decide +kernel
theorem dX10_measure_104 : decode cX10_measure 104 = .ok (.iload 8, 2) := by decide +kernel
theorem dX10_measure_106 : decode cX10_measure 106 = .ok (.iconst (-1), 1) := by decide +kernel
theorem dX10_measure_107 : decode cX10_measure 107 = .ok (.if_icmp .eq 119, 3) := by decide +kernel
theorem dX10_measure_110 : decode cX10_measure 110 = .ok (.aload_n 0, 1) := by decide +kernel
theorem dX10_measure_111 : decode cX10_measure 111 = .ok (.iload_n 2, 1) := by decide +kernel
theorem dX10_measure_112 : decode cX10_measure 112 = .ok (.invokevirtual 151, 3) := by decide +kernel
theorem dX10_measure_115 : decode cX10_measure 115 = .ok (.istore 6, 2) := by decide +kernel
theorem dX10_measure_117 : decode cX10_measure 117 = .ok (.aload_n 0, 1) := by decide +kernel
theorem dX10_measure_118 : decode cX10_measure 118 = .ok (.iload_n 1, 1) := by decide +kernel
theorem dX10_measure_119 : decode cX10_measure 119 = .ok (.iload_n 2, 1) := by decide +kernel
theorem dX10_measure_120 : decode cX10_measure 120 = .ok (.iload 8, 2) := by decide +kernel
theorem dX10_measure_122 : decode cX10_measure 122 = .ok (.invokevirtual 154, 3) := by decide +kernel
theorem dX10_measure_125 : decode cX10_measure 125 = .ok (.astore 11, 2) := by decide +kernel
theorem dX10_measure_127 : decode cX10_measure 127 = .ok (.iload_n 2, 1) := by decide +kernel
theorem dX10_measure_128 : decode cX10_measure 128 = .ok (.iconst 1, 1) := by decide +kernel
theorem dX10_measure_129 : decode cX10_measure 129 = .ok (.iload 8, 2) := by decide +kernel
theorem dX10_measure_131 : decode cX10_measure 131 = .ok (.ishl, 1) := by decide +kernel
theorem dX10_measure_132 : decode cX10_measure 132 = .ok (.iconst (-1), 1) := by decide +kernel
theorem dX10_measure_133 : decode cX10_measure 133 = .ok (.ixor, 1) := by decide +kernel
theorem dX10_measure_134 : decode cX10_measure 134 = .ok (.iand, 1) := by decide +kernel
theorem dX10_measure_135 : decode cX10_measure 135 = .ok (.istore 12, 2) := by decide +kernel
theorem dX10_measure_137 : decode cX10_measure 137 = .ok (.iconst 0, 1) := by decide +kernel
theorem dX10_measure_138 : decode cX10_measure 138 = .ok (.istore 13, 2) := by decide +kernel
theorem dX10_measure_140 : decode cX10_measure 140 = .ok (.iload 13, 2) := by decide +kernel
theorem dX10_measure_142 : decode cX10_measure 142 = .ok (.aload 11, 2) := by decide +kernel
theorem dX10_measure_144 : decode cX10_measure 144 = .ok (.getfield 103, 3) := by decide +kernel
theorem dX10_measure_147 : decode cX10_measure 147 = .ok (.if_icmp .ge 76, 3) := by decide +kernel
theorem dX10_measure_150 : decode cX10_measure 150 = .ok (.aload_n 0, 1) := by decide +kernel
theorem dX10_measure_151 : decode cX10_measure 151 = .ok (.aload 11, 2) := by decide +kernel
theorem dX10_measure_153 : decode cX10_measure 153 = .ok (.getfield 104, 3) := by decide +kernel
theorem dX10_measure_156 : decode cX10_measure 156 = .ok (.iload 13, 2) := by decide +kernel
theorem dX10_measure_158 : decode cX10_measure 158 = .ok (.iaload, 1) := by decide +kernel
theorem dX10_measure_159 : decode cX10_measure 159 = .ok (.iload 12, 2) := by decide +kernel
theorem dX10_measure_161 : decode cX10_measure 161 = .ok (.iload_n 3, 1) := by decide +kernel
theorem dX10_measure_162 : decode cX10_measure 162 = .ok (.iconst 1, 1) := by decide +kernel
theorem dX10_measure_163 : decode cX10_measure 163 = .ok (.iadd, 1) := by decide +kernel
theorem dX10_measure_164 : decode cX10_measure 164 = .ok (.invokestatic 141, 3) := by decide +kernel
theorem dX10_measure_167 : decode cX10_measure 167 = .ok (.lstore 14, 2) := by decide +kernel
theorem dX10_measure_169 : decode cX10_measure 169 = .ok (.ldc 158, 2) := by decide +kernel
theorem dX10_measure_171 : decode cX10_measure 171 = .ok (.iload 5, 2) := by decide +kernel
theorem dX10_measure_173 : decode cX10_measure 173 = .ok (.lload 14, 2) := by decide +kernel
theorem dX10_measure_175 : decode cX10_measure 175 = .ok (.invokestatic 159, 3) := by decide +kernel
theorem dX10_measure_178 : decode cX10_measure 178 = .ok (.iadd, 1) := by decide +kernel
theorem dX10_measure_179 : decode cX10_measure 179 = .ok (.invokestatic 121, 3) := by decide +kernel
theorem dX10_measure_182 : decode cX10_measure 182 = .ok (.istore 5, 2) := by decide +kernel
theorem dX10_measure_184 : decode cX10_measure 184 = .ok (.iload 6, 2) := by decide +kernel
theorem dX10_measure_186 : decode cX10_measure 186 = .ok (.aload 11, 2) := by decide +kernel
theorem dX10_measure_188 : decode cX10_measure 188 = .ok (.getfield 163, 3) := by decide +kernel
theorem dX10_measure_191 : decode cX10_measure 191 = .ok (.iload 13, 2) := by decide +kernel
theorem dX10_measure_193 : decode cX10_measure 193 = .ok (.iaload, 1) := by decide +kernel
theorem dX10_measure_194 : decode cX10_measure 194 = .ok (.lload 14, 2) := by decide +kernel
theorem dX10_measure_196 : decode cX10_measure 196 = .ok (.invokestatic 164, 3) := by decide +kernel
theorem dX10_measure_199 : decode cX10_measure 199 = .ok (.imul, 1) := by decide +kernel
theorem dX10_measure_200 : decode cX10_measure 200 = .ok (.iadd, 1) := by decide +kernel
theorem dX10_measure_201 : decode cX10_measure 201 = .ok (.istore 6, 2) := by decide +kernel
theorem dX10_measure_203 : decode cX10_measure 203 = .ok (.iload 7, 2) := by decide +kernel
theorem dX10_measure_205 : decode cX10_measure 205 = .ok (.lload 14, 2) := by decide +kernel
theorem dX10_measure_207 : decode cX10_measure 207 = .ok (.invokestatic 167, 3) := by decide +kernel
theorem dX10_measure_210 : decode cX10_measure 210 = .ok (.iconst 1, 1) := by decide +kernel
theorem dX10_measure_211 : decode cX10_measure 211 = .ok (.iadd, 1) := by decide +kernel
theorem dX10_measure_212 : decode cX10_measure 212 = .ok (.invokestatic 116, 3) := by decide +kernel
theorem dX10_measure_215 : decode cX10_measure 215 = .ok (.istore 7, 2) := by decide +kernel
theorem dX10_measure_217 : decode cX10_measure 217 = .ok (.iinc 13 1, 3) := by decide +kernel
theorem dX10_measure_220 : decode cX10_measure 220 = .ok (.goto (-80), 3) := by decide +kernel
theorem dX10_measure_223 : decode cX10_measure 223 = .ok (.goto 75, 3) := by decide +kernel
theorem dX10_measure_226 : decode cX10_measure 226 = .ok (.iload 10, 2) := by decide +kernel
theorem dX10_measure_228 : decode cX10_measure 228 = .ok (.iconst (-1), 1) := by decide +kernel
theorem dX10_measure_229 : decode cX10_measure 229 = .ok (.if_icmp .eq 69, 3) := by decide +kernel
theorem dX10_measure_232 : decode cX10_measure 232 = .ok (.aload_n 0, 1) := by decide +kernel
theorem dX10_measure_233 : decode cX10_measure 233 = .ok (.iload_n 1, 1) := by decide +kernel
theorem dX10_measure_234 : decode cX10_measure 234 = .ok (.iconst 1, 1) := by decide +kernel
theorem dX10_measure_235 : decode cX10_measure 235 = .ok (.iload 9, 2) := by decide +kernel
theorem dX10_measure_237 : decode cX10_measure 237 = .ok (.ishl, 1) := by decide +kernel
theorem dX10_measure_238 : decode cX10_measure 238 = .ok (.iconst (-1), 1) := by decide +kernel
theorem dX10_measure_239 : decode cX10_measure 239 = .ok (.ixor, 1) := by decide +kernel
theorem dX10_measure_240 : decode cX10_measure 240 = .ok (.iand, 1) := by decide +kernel
theorem dX10_measure_241 : decode cX10_measure 241 = .ok (.iload_n 2, 1) := by decide +kernel
theorem dX10_measure_242 : decode cX10_measure 242 = .ok (.iload_n 3, 1) := by decide +kernel
theorem dX10_measure_243 : decode cX10_measure 243 = .ok (.iconst 1, 1) := by decide +kernel
theorem dX10_measure_244 : decode cX10_measure 244 = .ok (.iadd, 1) := by decide +kernel
theorem dX10_measure_245 : decode cX10_measure 245 = .ok (.invokestatic 141, 3) := by decide +kernel
theorem dX10_measure_248 : decode cX10_measure 248 = .ok (.lstore 11, 2) := by decide +kernel
theorem dX10_measure_250 : decode cX10_measure 250 = .ok (.ldc 158, 2) := by decide +kernel
theorem dX10_measure_252 : decode cX10_measure 252 = .ok (.iload 5, 2) := by decide +kernel
theorem dX10_measure_254 : decode cX10_measure 254 = .ok (.lload 11, 2) := by decide +kernel
theorem dX10_measure_256 : decode cX10_measure 256 = .ok (.invokestatic 159, 3) := by decide +kernel
theorem dX10_measure_259 : decode cX10_measure 259 = .ok (.iadd, 1) := by decide +kernel
theorem dX10_measure_260 : decode cX10_measure 260 = .ok (.invokestatic 121, 3) := by decide +kernel
theorem dX10_measure_263 : decode cX10_measure 263 = .ok (.istore 5, 2) := by decide +kernel
theorem dX10_measure_265 : decode cX10_measure 265 = .ok (.aload_n 0, 1) := by decide +kernel
theorem dX10_measure_266 : decode cX10_measure 266 = .ok (.getfield 33, 3) := by decide +kernel
theorem dX10_measure_269 : decode cX10_measure 269 = .ok (.getfield 170, 3) := by decide +kernel
theorem dX10_measure_272 : decode cX10_measure 272 = .ok (.iload 10, 2) := by decide +kernel
theorem dX10_measure_274 : decode cX10_measure 274 = .ok (.invokestatic 70, 3) := by decide +kernel
theorem dX10_measure_277 : decode cX10_measure 277 = .ok (.ifCond .eq 7, 3) := by decide +kernel
theorem dX10_measure_280 : decode cX10_measure 280 = .ok (.iconst 0, 1) := by decide +kernel
theorem dX10_measure_281 : decode cX10_measure 281 = .ok (.goto 8, 3) := by decide +kernel
theorem dX10_measure_284 : decode cX10_measure 284 = .ok (.lload 11, 2) := by decide +kernel
theorem dX10_measure_286 : decode cX10_measure 286 = .ok (.invokestatic 164, 3) := by decide +kernel
theorem dX10_measure_289 : decode cX10_measure 289 = .ok (.istore 6, 2) := by decide +kernel
theorem dX10_measure_291 : decode cX10_measure 291 = .ok (.lload 11, 2) := by decide +kernel
theorem dX10_measure_293 : decode cX10_measure 293 = .ok (.invokestatic 167, 3) := by decide +kernel
theorem dX10_measure_296 : decode cX10_measure 296 = .ok (.istore 7, 2) := by decide +kernel
theorem dX10_measure_298 : decode cX10_measure 298 = .ok (.iload 7, 2) := by decide +kernel
theorem dX10_measure_300 : decode cX10_measure 300 = .ok (.i2l, 1) := by decide +kernel
theorem dX10_measure_301 : decode cX10_measure 301 = .ok (.bipush 17, 2) := by decide +kernel
theorem dX10_measure_303 : decode cX10_measure 303 = .ok (.lshl, 1) := by decide +kernel
theorem dX10_measure_304 : decode cX10_measure 304 = .ok (.iload 6, 2) := by decide +kernel
theorem dX10_measure_306 : decode cX10_measure 306 = .ok (.i2l, 1) := by decide +kernel
theorem dX10_measure_307 : decode cX10_measure 307 = .ok (.lor, 1) := by decide +kernel
theorem dX10_measure_308 : decode cX10_measure 308 = .ok (.bipush 20, 2) := by decide +kernel
theorem dX10_measure_310 : decode cX10_measure 310 = .ok (.lshl, 1) := by decide +kernel
theorem dX10_measure_311 : decode cX10_measure 311 = .ok (.iload 5, 2) := by decide +kernel
theorem dX10_measure_313 : decode cX10_measure 313 = .ok (.i2l, 1) := by decide +kernel
end
