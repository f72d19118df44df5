theorem dX12_status_1 : decode cX12_status 1 = .ok (.iconst 0, 1) := by decide +kernel
theorem dX12_status_2 : decode cX12_status 2 = .ok (.iconst 5, 1) := by decide +kernel
theorem dX12_status_3 : decode cX12_status 3 = .ok (.invokestatic 362, 3) := by decide +kernel
theorem dX12_status_6 : decode cX12_status 6 = .ok (.ifCond .eq 12, 3) := by decide +kernel
theorem dX12_status_9 : decode cX12_status 9 = .ok (.aload_n 0, 1) := by decide +kernel
theorem dX12_status_10 : decode cX12_status 10 = .ok (.getfield 149, 3) := by decide +kernel
theorem dX12_status_13 : decode cX12_status 13 = .ok (.iload_n 1, 1) := by decide +kernel
theorem dX12_status_14 : decode cX12_status 14 = .ok (.iaload, 1) := by decide +kernel
theorem dX12_status_15 : decode cX12_status 15 = .ok (.goto 4, 3) := by decide +kernel
theorem dX12_status_18 : decode cX12_status 18 = .ok (.iconst (-1), 1) := by decide +kernel
theorem dX12_status_19 : decode cX12_status 19 = .ok (.ireturn, 1) := by decide +kernel
theorem dX12_fieldOf_0 : decode cX12_fieldOf 0 = .ok (.bipush 24, 2) := by decide +kernel
theorem dX12_fieldOf_2 : decode cX12_fieldOf 2 = .ok (.aload_n 0, 1) := by decide +kernel
theorem dX12_fieldOf_3 : decode cX12_fieldOf 3 = .ok (.getfield 51, 3) := by decide +kernel
theorem dX12_fieldOf_6 : decode cX12_fieldOf 6 = .ok (.imul, 1) := by decide +kernel
theorem dX12_fieldOf_7 : decode cX12_fieldOf 7 = .ok (.iload_n 2, 1) := by decide +kernel
theorem dX12_fieldOf_8 : decode cX12_fieldOf 8 = .ok (.iadd, 1) := by decide +kernel
theorem dX12_fieldOf_9 : decode cX12_fieldOf 9 = .ok (.istore 4, 2) := by decide +kernel
theorem dX12_fieldOf_11 : decode cX12_fieldOf 11 = .ok (.iload_n 1, 1) := by decide +kernel
theorem dX12_fieldOf_12 : decode cX12_fieldOf 12 = .ok (.aload_n 0, 1) := by decide +kernel
theorem dX12_fieldOf_13 : decode cX12_fieldOf 13 = .ok (.getfield 75, 3) := by decide +kernel
theorem dX12_fieldOf_16 : decode cX12_fieldOf 16 = .ok (.iload 4, 2) := by decide +kernel
theorem dX12_fieldOf_18 : decode cX12_fieldOf 18 = .ok (.iaload, 1) := by decide +kernel
theorem dX12_fieldOf_19 : decode cX12_fieldOf 19 = .ok (.if_icmp .lt 22, 3) := by decide +kernel
theorem dX12_fieldOf_22 : decode cX12_fieldOf 22 = .ok (.iload_n 1, 1) := by decide +kernel
theorem dX12_fieldOf_23 : decode cX12_fieldOf 23 = .ok (.aload_n 0, 1) := by decide +kernel
theorem dX12_fieldOf_24 : decode cX12_fieldOf 24 = .ok (.getfield 75, 3) := by decide +kernel
theorem dX12_fieldOf_27 : decode cX12_fieldOf 27 = .ok (.iload 4, 2) := by decide +kernel
theorem dX12_fieldOf_29 : decode cX12_fieldOf 29 = .ok (.iaload, 1) := by decide +kernel
theorem dX12_fieldOf_30 : decode cX12_fieldOf 30 = .ok (.aload_n 0, 1) := by decide +kernel
theorem dX12_fieldOf_31 : decode cX12_fieldOf 31 = .ok (.getfield 78, 3) := by decide +kernel
theorem dX12_fieldOf_34 : decode cX12_fieldOf 34 = .ok (.iload 4, 2) := by decide +kernel
theorem dX12_fieldOf_36 : decode cX12_fieldOf 36 = .ok (.iaload, 1) := by decide +kernel
theorem dX12_fieldOf_37 : decode cX12_fieldOf 37 = .ok (.iadd, 1) := by decide +kernel
theorem dX12_fieldOf_38 : decode cX12_fieldOf 38 = .ok (.if_icmp .lt 5, 3) := by decide +kernel
theorem dX12_fieldOf_41 : decode cX12_fieldOf 41 = .ok (.iconst (-1), 1) := by decide +kernel
theorem dX12_fieldOf_42 : decode cX12_fieldOf 42 = .ok (.ireturn, 1) := by decide +kernel
theorem dX12_fieldOf_43 : decode cX12_fieldOf 43 = .ok (.iload_n 1, 1) := by decide +kernel
theorem dX12_fieldOf_44 : decode cX12_fieldOf 44 = .ok (.aload_n 0, 1) := by decide +kernel
theorem dX12_fieldOf_45 : decode cX12_fieldOf 45 = .ok (.getfield 75, 3) := by decide +kernel
theorem dX12_fieldOf_48 : decode cX12_fieldOf 48 = .ok (.iload 4, 2) := by decide +kernel
theorem dX12_fieldOf_50 : decode cX12_fieldOf 50 = .ok (.iaload, 1) := by decide +kernel
theorem dX12_fieldOf_51 : decode cX12_fieldOf 51 = .ok (.isub, 1) := by decide +kernel
theorem dX12_fieldOf_52 : decode cX12_fieldOf 52 = .ok (.istore 5, 2) := by decide +kernel
theorem dX12_fieldOf_54 : decode cX12_fieldOf 54 = .ok (.aload_n 0, 1) := by decide +kernel
theorem dX12_fieldOf_55 : decode cX12_fieldOf 55 = .ok (.getfield 69, 3) := by decide +kernel
theorem dX12_fieldOf_58 : decode cX12_fieldOf 58 = .ok (.iload 4, 2) := by decide +kernel
theorem dX12_fieldOf_60 : decode cX12_fieldOf 60 = .ok (.iaload, 1) := by decide +kernel
theorem dX12_fieldOf_61 : decode cX12_fieldOf 61 = .ok (.iconst 1, 1) := by decide +kernel
theorem dX12_fieldOf_62 : decode cX12_fieldOf 62 = .ok (.if_icmp .ne 6, 3) := by decide +kernel
theorem dX12_fieldOf_65 : decode cX12_fieldOf 65 = .ok (.iload 5, 2) := by decide +kernel
theorem dX12_fieldOf_67 : decode cX12_fieldOf 67 = .ok (.ireturn, 1) := by decide +kernel
theorem dX12_fieldOf_68 : decode cX12_fieldOf 68 = .ok (.aload_n 0, 1) := by decide +kernel
theorem dX12_fieldOf_69 : decode cX12_fieldOf 69 = .ok (.aload_n 0, 1) := by decide +kernel
theorem dX12_fieldOf_70 : decode cX12_fieldOf 70 = .ok (.getfield 51, 3) := by decide +kernel
theorem dX12_fieldOf_73 : decode cX12_fieldOf 73 = .ok (.aload_n 0, 1) := by decide +kernel
theorem dX12_fieldOf_74 : decode cX12_fieldOf 74 = .ok (.getfield 72, 3) := by decide +kernel
theorem dX12_fieldOf_77 : decode cX12_fieldOf 77 = .ok (.iconst 2, 1) := by decide +kernel
theorem dX12_fieldOf_78 : decode cX12_fieldOf 78 = .ok (.iload 4, 2) := by decide +kernel
theorem dX12_fieldOf_80 : decode cX12_fieldOf 80 = .ok (.imul, 1) := by decide +kernel
theorem dX12_fieldOf_81 : decode cX12_fieldOf 81 = .ok (.iconst 1, 1) := by decide +kernel
theorem dX12_fieldOf_82 : decode cX12_fieldOf 82 = .ok (.iadd, 1) := by decide +kernel
theorem dX12_fieldOf_83 : decode cX12_fieldOf 83 = .ok (.iaload, 1) := by decide +kernel
theorem dX12_fieldOf_84 : decode cX12_fieldOf 84 = .ok (.invokevirtual 396, 3) := by decide +kernel
theorem dX12_fieldOf_87 : decode cX12_fieldOf 87 = .ok (.istore 6, 2) := by decide +kernel
theorem dX12_fieldOf_89 : decode cX12_fieldOf 89 = .ok (.iload_n 3, 1) := by decide +kernel
theorem dX12_fieldOf_90 : decode cX12_fieldOf 90 = .ok (.ifCond .ne 11, 3) := by decide +kernel
theorem dX12_fieldOf_93 : decode cX12_fieldOf 93 = .ok (.iload 5, 2) := by decide +kernel
theorem dX12_fieldOf_95 : decode cX12_fieldOf 95 = .ok (.iload 6, 2) := by decide +kernel
theorem dX12_fieldOf_97 : decode cX12_fieldOf 97 = .ok (.idiv, 1) := by decide +kernel
theorem dX12_fieldOf_98 : decode cX12_fieldOf 98 = .ok (.goto 8, 3) := by decide +kernel
theorem dX12_fieldOf_101 : decode cX12_fieldOf 101 = .ok (.iload 5, 2) := by decide +kernel
theorem dX12_fieldOf_103 : decode cX12_fieldOf 103 = .ok (.iload 6, 2) := by decide +kernel
theorem dX12_fieldOf_105 : decode cX12_fieldOf 105 = .ok (.irem, 1) := by decide +kernel
theorem dX12_fieldOf_106 : decode cX12_fieldOf 106 = .ok (.ireturn, 1) := by decide +kernel
theorem dX12_isFitting_0 : decode cX12_isFitting 0 = .ok (.iconst 0, 1) := by decide +kernel
theorem dX12_isFitting_1 : decode cX12_isFitting 1 = .ok (.istore 4, 2) := by decide +kernel
theorem dX12_isFitting_3 : decode cX12_isFitting 3 = .ok (.iconst 0, 1) := by decide +kernel
theorem dX12_isFitting_4 : decode cX12_isFitting 4 = .ok (.istore 5, 2) := by decide +kernel
theorem dX12_isFitting_6 : decode cX12_isFitting 6 = .ok (.aload_n 0, 1) := by decide +kernel
theorem dX12_isFitting_7 : decode cX12_isFitting 7 = .ok (.getfield 152, 3) := by decide +kernel
theorem dX12_isFitting_10 : decode cX12_isFitting 10 = .ok (.iconst 0, 1) := by decide +kernel
theorem dX12_isFitting_11 : decode cX12_isFitting 11 = .ok (.iload_n 3, 1) := by decide +kernel
theorem dX12_isFitting_12 : decode cX12_isFitting 12 = .ok (.iastore, 1) := by decide +kernel
theorem dX12_isFitting_13 : decode cX12_isFitting 13 = .ok (.iconst 4, 1) := by decide +kernel
theorem dX12_isFitting_14 : decode cX12_isFitting 14 = .ok (.bipush 12, 2) := by decide +kernel
theorem dX12_isFitting_16 : decode cX12_isFitting 16 = .ok (.aload_n 0, 1) := by decide +kernel
theorem dX12_isFitting_17 : decode cX12_isFitting 17 = .ok (.getfield 51, 3) := by decide +kernel
theorem dX12_isFitting_20 : decode cX12_isFitting 20 = .ok (.imul, 1) := by decide +kernel
theorem dX12_isFitting_21 : decode cX12_isFitting 21 = .ok (.iload_n 1, 1) := by decide +kernel
theorem dX12_isFitting_22 : decode cX12_isFitting 22 = .ok (.iadd, 1) := by decide +kernel
theorem dX12_isFitting_23 : decode cX12_isFitting 23 = .ok (.imul, 1) := by decide +kernel
theorem dX12_isFitting_24 : decode cX12_isFitting 24 = .ok (.iload_n 2, 1) := by decide +kernel
theorem dX12_isFitting_25 : decode cX12_isFitting 25 = .ok (.iadd, 1) := by decide +kernel
theorem dX12_isFitting_26 : decode cX12_isFitting 26 = .ok (.istore 6, 2) := by decide +kernel
theorem dX12_isFitting_28 : decode cX12_isFitting 28 = .ok (.sipush 2800, 3) := by decide +kernel
theorem dX12_isFitting_31 : decode cX12_isFitting 31 = .ok (.aload_n 0, 1) := by decide +kernel
theorem dX12_isFitting_32 : decode cX12_isFitting 32 = .ok (.getfield 51, 3) := by decide +kernel
theorem dX12_isFitting_35 : decode cX12_isFitting 35 = .ok (.imul, 1) := by decide +kernel
theorem dX12_isFitting_36 : decode cX12_isFitting 36 = .ok (.aload_n 0, 1) := by decide +kernel
theorem dX12_isFitting_37 : decode cX12_isFitting 37 = .ok (.getfield 99, 3) := by decide +kernel
theorem dX12_isFitting_40 : decode cX12_isFitting 40 = .ok (.iload 6, 2) := by decide +kernel
theorem dX12_isFitting_42 : decode cX12_isFitting 42 = .ok (.iaload, 1) := by decide +kernel
theorem dX12_isFitting_43 : decode cX12_isFitting 43 = .ok (.iadd, 1) := by decide +kernel
theorem dX12_isFitting_44 : decode cX12_isFitting 44 = .ok (.istore 7, 2) := by decide +kernel
theorem dX12_isFitting_46 : decode cX12_isFitting 46 = .ok (.iload 7, 2) := by decide +kernel
theorem dX12_isFitting_48 : decode cX12_isFitting 48 = .ok (.sipush 2800, 3) := by decide +kernel
theorem dX12_isFitting_51 : decode cX12_isFitting 51 = .ok (.aload_n 0, 1) := by decide +kernel
theorem dX12_isFitting_52 : decode cX12_isFitting 52 = .ok (.getfield 51, 3) := by decide +kernel
theorem dX12_isFitting_55 : decode cX12_isFitting 55 = .ok (.imul, 1) := by decide +kernel
theorem dX12_isFitting_56 : decode cX12_isFitting 56 = .ok (.aload_n 0, 1) := by decide +kernel
theorem dX12_isFitting_57 : decode cX12_isFitting 57 = .ok (.getfield 102, 3) := by decide +kernel
theorem dX12_isFitting_60 : decode cX12_isFitting 60 = .ok (.iload 6, 2) := by decide +kernel
theorem dX12_isFitting_62 : decode cX12_isFitting 62 = .ok (.iaload, 1) := by decide +kernel
theorem dX12_isFitting_63 : decode cX12_isFitting 63 = .ok (.iadd, 1) := by decide +kernel
theorem dX12_isFitting_64 : decode cX12_isFitting 64 = .ok (.if_icmp .ge 283, 3) := by decide +kernel
theorem dX12_isFitting_67 : decode cX12_isFitting 67 = .ok (.aload_n 0, 1) := by decide +kernel
theorem dX12_isFitting_68 : decode cX12_isFitting 68 = .ok (.getfield 108, 3) := by decide +kernel
theorem dX12_isFitting_71 : decode cX12_isFitting 71 = .ok (.iload 7, 2) := by decide +kernel
theorem dX12_isFitting_73 : decode cX12_isFitting 73 = .ok (.iaload, 1) := by decide +kernel
theorem dX12_isFitting_74 : decode cX12_isFitting 74 = .ok (.istore 8, 2) := by decide +kernel
theorem dX12_isFitting_76 : decode cX12_isFitting 76 = .ok (.aload_n 0, 1) := by decide +kernel
theorem dX12_isFitting_77 : decode cX12_isFitting 77 = .ok (.getfield 105, 3) := by decide +kernel
theorem dX12_isFitting_80 : decode cX12_isFitting 80 = .ok (.iload 7, 2) := by decide +kernel
theorem dX12_isFitting_82 : decode cX12_isFitting 82 = .ok (.iaload, 1) := by decide +kernel
theorem dX12_isFitting_83 : decode cX12_isFitting 83 = .ok (.tableswitch 236 0 5 #[37, 51, 91, 170, 205, 211], 37) := by decide +kernel
theorem dX12_isFitting_120 : decode cX12_isFitting 120 = .ok (.aload_n 0, 1) := by decide +kernel
theorem dX12_isFitting_121 : decode cX12_isFitting 121 = .ok (.getfield 155, 3) := by decide +kernel
theorem dX12_isFitting_124 : decode cX12_isFitting 124 = .ok (.iload 4, 2) := by decide +kernel
theorem dX12_isFitting_126 : decode cX12_isFitting 126 = .ok (.iconst 1, 1) := by decide +kernel
theorem dX12_isFitting_127 : decode cX12_isFitting 127 = .ok (.iastore, 1) := by decide +kernel
theorem dX12_isFitting_128 : decode cX12_isFitting 128 = .ok (.iinc 4 1, 3) := by decide +kernel
theorem dX12_isFitting_131 : decode cX12_isFitting 131 = .ok (.goto 210, 3) := by decide +kernel
theorem dX12_isFitting_134 : decode cX12_isFitting 134 = .ok (.aload_n 0, 1) := by decide +kernel
theorem dX12_isFitting_135 : decode cX12_isFitting 135 = .ok (.getfield 155, 3) := by decide +kernel
theorem dX12_isFitting_138 : decode cX12_isFitting 138 = .ok (.iload 4, 2) := by decide +kernel
theorem dX12_isFitting_140 : decode cX12_isFitting 140 = .ok (.aload_n 0, 1) := by decide +kernel
theorem dX12_isFitting_141 : decode cX12_isFitting 141 = .ok (.getfield 152, 3) := by decide +kernel
theorem dX12_isFitting_144 : decode cX12_isFitting 144 = .ok (.iload 5, 2) := by decide +kernel
theorem dX12_isFitting_146 : decode cX12_isFitting 146 = .ok (.iaload, 1) := by decide +kernel
theorem dX12_isFitting_147 : decode cX12_isFitting 147 = .ok (.iload 8, 2) := by decide +kernel
theorem dX12_isFitting_149 : decode cX12_isFitting 149 = .ok (.aload_n 0, 1) := by decide +kernel
theorem dX12_isFitting_150 : decode cX12_isFitting 150 = .ok (.getfield 111, 3) := by decide +kernel
theorem dX12_isFitting_153 : decode cX12_isFitting 153 = .ok (.iload 7, 2) := by decide +kernel
theorem dX12_isFitting_155 : decode cX12_isFitting 155 = .ok (.iaload, 1) := by decide +kernel
theorem dX12_isFitting_156 : decode cX12_isFitting 156 = .ok (.invokestatic 362, 3) := by decide +kernel
theorem dX12_isFitting_159 : decode cX12_isFitting 159 = .ok (.ifCond .eq 7, 3) := by decide +kernel
theorem dX12_isFitting_162 : decode cX12_isFitting 162 = .ok (.iconst 1, 1) := by decide +kernel
theorem dX12_isFitting_163 : decode cX12_isFitting 163 = .ok (.goto 4, 3) := by decide +kernel
theorem dX12_isFitting_166 : decode cX12_isFitting 166 = .ok (.iconst 0, 1) := by decide +kernel
theorem dX12_isFitting_167 : decode cX12_isFitting 167 = .ok (.iastore, 1) := by decide +kernel
theorem dX12_isFitting_168 : decode cX12_isFitting 168 = .ok (.iinc 4 1, 3) := by decide +kernel
theorem dX12_isFitting_171 : decode cX12_isFitting 171 = .ok (.goto 170, 3) := by decide +kernel
theorem dX12_isFitting_174 : decode cX12_isFitting 174 = .ok (.aload_n 0, 1) := by decide +kernel
theorem dX12_isFitting_175 : decode cX12_isFitting 175 = .ok (.getfield 155, 3) := by decide +kernel
theorem dX12_isFitting_178 : decode cX12_isFitting 178 = .ok (.iload 4, 2) := by decide +kernel
theorem dX12_isFitting_180 : decode cX12_isFitting 180 = .ok (.aload_n 0, 1) := by decide +kernel
theorem dX12_isFitting_181 : decode cX12_isFitting 181 = .ok (.getfield 152, 3) := by decide +kernel
theorem dX12_isFitting_184 : decode cX12_isFitting 184 = .ok (.iload 5, 2) := by decide +kernel
theorem dX12_isFitting_186 : decode cX12_isFitting 186 = .ok (.iaload, 1) := by decide +kernel
theorem dX12_isFitting_187 : decode cX12_isFitting 187 = .ok (.aload_n 0, 1) := by decide +kernel
theorem dX12_isFitting_188 : decode cX12_isFitting 188 = .ok (.getfield 75, 3) := by decide +kernel
theorem dX12_isFitting_191 : decode cX12_isFitting 191 = .ok (.bipush 24, 2) := by decide +kernel
theorem dX12_isFitting_193 : decode cX12_isFitting 193 = .ok (.aload_n 0, 1) := by decide +kernel
theorem dX12_isFitting_194 : decode cX12_isFitting 194 = .ok (.getfield 51, 3) := by decide +kernel
theorem dX12_isFitting_197 : decode cX12_isFitting 197 = .ok (.imul, 1) := by decide +kernel
theorem dX12_isFitting_198 : decode cX12_isFitting 198 = .ok (.iload 8, 2) := by decide +kernel
theorem dX12_isFitting_200 : decode cX12_isFitting 200 = .ok (.iadd, 1) := by decide +kernel
theorem dX12_isFitting_201 : decode cX12_isFitting 201 = .ok (.iaload, 1) := by decide +kernel
theorem dX12_isFitting_202 : decode cX12_isFitting 202 = .ok (.aload_n 0, 1) := by decide +kernel
theorem dX12_isFitting_203 : decode cX12_isFitting 203 = .ok (.getfield 75, 3) := by decide +kernel
theorem dX12_isFitting_206 : decode cX12_isFitting 206 = .ok (.bipush 24, 2) := by decide +kernel
theorem dX12_isFitting_208 : decode cX12_isFitting 208 = .ok (.aload_n 0, 1) := by decide +kernel
theorem dX12_isFitting_209 : decode cX12_isFitting 209 = .ok (.getfield 51, 3) := by decide +kernel
theorem dX12_isFitting_212 : decode cX12_isFitting 212 = .ok (.imul, 1) := by decide +kernel
theorem dX12_isFitting_213 : decode cX12_isFitting 213 = .ok (.iload 8, 2) := by decide +kernel
theorem dX12_isFitting_215 : decode cX12_isFitting 215 = .ok (.iadd, 1) := by decide +kernel
theorem dX12_isFitting_216 : decode cX12_isFitting 216 = .ok (.iaload, 1) := by decide +kernel
theorem dX12_isFitting_217 : decode cX12_isFitting 217 = .ok (.aload_n 0, 1) := by decide +kernel
theorem dX12_isFitting_218 : decode cX12_isFitting 218 = .ok (.getfield 78, 3) := by decide +kernel
theorem dX12_isFitting_221 : decode cX12_isFitting 221 = .ok (.bipush 24, 2) := by decide +kernel
theorem dX12_isFitting_223 : decode cX12_isFitting 223 = .ok (.aload_n 0, 1) := by decide +kernel
theorem dX12_isFitting_224 : decode cX12_isFitting 224 = .ok (.getfield 51, 3) := by decide +kernel
theorem dX12_isFitting_227 : decode cX12_isFitting 227 = .ok (.imul, 1) := by decide +kernel
theorem dX12_isFitting_228 : decode cX12_isFitting 228 = .ok (.iload 8, 2) := by decide +kernel
theorem dX12_isFitting_230 : decode cX12_isFitting 230 = .ok (.iadd, 1) := by decide +kernel
theorem dX12_isFitting_231 : decode cX12_isFitting 231 = .ok (.iaload, 1) := by decide +kernel
theorem dX12_isFitting_232 : decode cX12_isFitting 232 = .ok (.iadd, 1) := by decide +kernel
theorem dX12_isFitting_233 : decode cX12_isFitting 233 = .ok (.iconst 1, 1) := by decide +kernel
theorem dX12_isFitting_234 : decode cX12_isFitting 234 = .ok (.isub, 1) := by decide +kernel
theorem dX12_isFitting_235 : decode cX12_isFitting 235 = .ok (.invokestatic 362, 3) := by decide +kernel
theorem dX12_isFitting_238 : decode cX12_isFitting 238 = .ok (.ifCond .eq 7, 3) := by decide +kernel
theorem dX12_isFitting_241 : decode cX12_isFitting 241 = .ok (.iconst 1, 1) := by decide +kernel
theorem dX12_isFitting_242 : decode cX12_isFitting 242 = .ok (.goto 4, 3) := by decide +kernel
theorem dX12_isFitting_245 : decode cX12_isFitting 245 = .ok (.iconst 0, 1) := by decide +kernel
theorem dX12_isFitting_246 : decode cX12_isFitting 246 = .ok (.iastore, 1) := by decide +kernel
theorem dX12_isFitting_247 : decode cX12_isFitting 247 = .ok (.iinc 4 1, 3) := by decide +kernel
theorem dX12_isFitting_250 : decode cX12_isFitting 250 = .ok (.goto 91, 3) := by decide +kernel
theorem dX12_isFitting_253 : decode cX12_isFitting 253 = .ok (.aload_n 0, 1) := by decide +kernel
theorem dX12_isFitting_254 : decode cX12_isFitting 254 = .ok (.getfield 152, 3) := by decide +kernel
theorem dX12_isFitting_257 : decode cX12_isFitting 257 = .ok (.iload 5, 2) := by decide +kernel
theorem dX12_isFitting_259 : decode cX12_isFitting 259 = .ok (.iconst 1, 1) := by decide +kernel
theorem dX12_isFitting_260 : decode cX12_isFitting 260 = .ok (.iadd, 1) := by decide +kernel
theorem dX12_isFitting_261 : decode cX12_isFitting 261 = .ok (.aload_n 0, 1) := by decide +kernel
theorem dX12_isFitting_262 : decode cX12_isFitting 262 = .ok (.aload_n 0, 1) := by decide +kernel
theorem dX12_isFitting_263 : decode cX12_isFitting 263 = .ok (.getfield 152, 3) := by decide +kernel
theorem dX12_isFitting_266 : decode cX12_isFitting 266 = .ok (.iload 5, 2) := by decide +kernel
theorem dX12_isFitting_268 : decode cX12_isFitting 268 = .ok (.iaload, 1) := by decide +kernel
theorem dX12_isFitting_269 : decode cX12_isFitting 269 = .ok (.iload 8, 2) := by decide +kernel
theorem dX12_isFitting_271 : decode cX12_isFitting 271 = .ok (.aload_n 0, 1) := by decide +kernel
theorem dX12_isFitting_272 : decode cX12_isFitting 272 = .ok (.getfield 111, 3) := by decide +kernel
theorem dX12_isFitting_275 : decode cX12_isFitting 275 = .ok (.iload 7, 2) := by decide +kernel
theorem dX12_isFitting_277 : decode cX12_isFitting 277 = .ok (.iaload, 1) := by decide +kernel
theorem dX12_isFitting_278 : decode cX12_isFitting 278 = .ok (.invokevirtual 455, 3) := by decide +kernel
theorem dX12_isFitting_281 : decode cX12_isFitting 281 = .ok (.iastore, 1) := by decide +kernel
theorem dX12_isFitting_282 : decode cX12_isFitting 282 = .ok (.iinc 5 1, 3) := by decide +kernel
theorem dX12_isFitting_285 : decode cX12_isFitting 285 = .ok (.goto 56, 3) := by decide +kernel
theorem dX12_isFitting_288 : decode cX12_isFitting 288 = .ok (.iinc 5 (-1), 3) := by decide +kernel
theorem dX12_isFitting_291 : decode cX12_isFitting 291 = .ok (.goto 50, 3) := by decide +kernel
theorem dX12_isFitting_294 : decode cX12_isFitting 294 = .ok (.iinc 4 (-1), 3) := by decide +kernel
theorem dX12_isFitting_297 : decode cX12_isFitting 297 = .ok (.aload_n 0, 1) := by decide +kernel
theorem dX12_isFitting_298 : decode cX12_isFitting 298 = .ok (.getfield 155, 3) := by decide +kernel
theorem dX12_isFitting_301 : decode cX12_isFitting 301 = .ok (.iload 4, 2) := by decide +kernel
theorem dX12_isFitting_303 : decode cX12_isFitting 303 = .ok (.iconst 1, 1) := by decide +kernel
theorem dX12_isFitting_304 : decode cX12_isFitting 304 = .ok (.isub, 1) := by decide +kernel
theorem dX12_isFitting_305 : decode cX12_isFitting 305 = .ok (.dup2, 1) := by decide +kernel
theorem dX12_isFitting_306 : decode cX12_isFitting 306 = .ok (.iaload, 1) := by decide +kernel
theorem dX12_isFitting_307 : decode cX12_isFitting 307 = .ok (.aload_n 0, 1) := by decide +kernel
theorem dX12_isFitting_308 : decode cX12_isFitting 308 = .ok (.getfield 155, 3) := by decide +kernel
theorem dX12_isFitting_311 : decode cX12_isFitting 311 = .ok (.iload 4, 2) := by decide +kernel
theorem dX12_isFitting_313 : decode cX12_isFitting 313 = .ok (.iaload, 1) := by decide +kernel
theorem dX12_isFitting_314 : decode cX12_isFitting 314 = .ok (.iand, 1) := by decide +kernel
theorem dX12_isFitting_315 : decode cX12_isFitting 315 = .ok (.iastore, 1) := by decide +kernel
theorem dX12_isFitting_316 : decode cX12_isFitting 316 = .ok (.goto 25, 3) := by decide +kernel
theorem dX12_isFitting_319 : decode cX12_isFitting 319 = .ok (.iinc 4 (-1), 3) := by decide +kernel
theorem dX12_isFitting_322 : decode cX12_isFitting 322 = .ok (.aload_n 0, 1) := by decide +kernel
theorem dX12_isFitting_323 : decode cX12_isFitting 323 = .ok (.getfield 155, 3) := by decide +kernel
theorem dX12_isFitting_326 : decode cX12_isFitting 326 = .ok (.iload 4, 2) := by decide +kernel
theorem dX12_isFitting_328 : decode cX12_isFitting 328 = .ok (.iconst 1, 1) := by decide +kernel
theorem dX12_isFitting_329 : decode cX12_isFitting 329 = .ok (.isub, 1) := by decide +kernel
theorem dX12_isFitting_330 : decode cX12_isFitting 330 = .ok (.dup2, 1) := by decide +kernel
theorem dX12_isFitting_331 : decode cX12_isFitting 331 = .ok (.iaload, 1) := by decide +kernel
theorem dX12_isFitting_332 : decode cX12_isFitting 332 = .ok (.aload_n 0, 1) := by decide +kernel
theorem dX12_isFitting_333 : decode cX12_isFitting 333 = .ok (.getfield 155, 3) := by decide +kernel
theorem dX12_isFitting_336 : decode cX12_isFitting 336 = .ok (.iload 4, 2) := by decide +kernel
theorem dX12_isFitting_338 : decode cX12_isFitting 338 = .ok (.iaload, 1) := by decide +kernel
theorem dX12_isFitting_339 : decode cX12_isFitting 339 = .ok (.ior, 1) := by decide +kernel
theorem dX12_isFitting_340 : decode cX12_isFitting 340 = .ok (.iastore, 1) := by decide +kernel
theorem dX12_isFitting_341 : decode cX12_isFitting 341 = .ok (.iinc 7 1, 3) := by decide +kernel
theorem dX12_isFitting_344 : decode cX12_isFitting 344 = .ok (.goto (-298), 3) := by decide +kernel
theorem dX12_isFitting_347 : decode cX12_isFitting 347 = .ok (.aload_n 0, 1) := by decide +kernel
theorem dX12_isFitting_348 : decode cX12_isFitting 348 = .ok (.getfield 155, 3) := by decide +kernel
theorem dX12_isFitting_351 : decode cX12_isFitting 351 = .ok (.iconst 0, 1) := by decide +kernel
theorem dX12_isFitting_352 : decode cX12_isFitting 352 = .ok (.iaload, 1) := by decide +kernel
theorem dX12_isFitting_353 : decode cX12_isFitting 353 = .ok (.iconst 1, 1) := by decide +kernel
theorem dX12_isFitting_354 : decode cX12_isFitting 354 = .ok (.if_icmp .ne 7, 3) := by decide +kernel
theorem dX12_isFitting_357 : decode cX12_isFitting 357 = .ok (.iconst 1, 1) := by decide +kernel
theorem dX12_isFitting_358 : decode cX12_isFitting 358 = .ok (.goto 4, 3) := by decide +kernel
theorem dX12_isFitting_361 : decode cX12_isFitting 361 = .ok (.iconst 0, 1) := by decide +kernel
theorem dX12_isFitting_362 : decode cX12_isFitting 362 = .ok (.ireturn, 1) := by decide +kernel
theorem dX12_columns_0 : decode cX12_columns 0 = .ok (.aload_n 0, 1) := by decide +kernel
theorem dX12_columns_1 : decode cX12_columns 1 = .ok (.getfield 81, 3) := by decide +kernel
theorem dX12_columns_4 : decode cX12_columns 4 = .ok (.aload_n 0, 1) := by decide +kernel
theorem dX12_columns_5 : decode cX12_columns 5 = .ok (.getfield 51, 3) := by decide +kernel
theorem dX12_columns_8 : decode cX12_columns 8 = .ok (.iaload, 1) := by decide +kernel
theorem dX12_columns_9 : decode cX12_columns 9 = .ok (.ireturn, 1) := by decide +kernel
theorem dX12_columnValues_0 : decode cX12_columnValues 0 = .ok (.aload_n 0, 1) := by decide +kernel
theorem dX12_columnValues_1 : decode cX12_columnValues 1 = .ok (.aload_n 0, 1) := by decide +kernel
theorem dX12_columnValues_2 : decode cX12_columnValues 2 = .ok (.getfield 51, 3) := by decide +kernel
theorem dX12_columnValues_5 : decode cX12_columnValues 5 = .ok (.aload_n 0, 1) := by decide +kernel
theorem dX12_columnValues_6 : decode cX12_columnValues 6 = .ok (.getfield 84, 3) := by decide +kernel
theorem dX12_columnValues_9 : decode cX12_columnValues 9 = .ok (.iconst 4, 1) := by decide +kernel
theorem dX12_columnValues_10 : decode cX12_columnValues 10 = .ok (.aload_n 0, 1) := by decide +kernel
theorem dX12_columnValues_11 : decode cX12_columnValues 11 = .ok (.getfield 51, 3) := by decide +kernel
theorem dX12_columnValues_14 : decode cX12_columnValues 14 = .ok (.imul, 1) := by decide +kernel
theorem dX12_columnValues_15 : decode cX12_columnValues 15 = .ok (.iload_n 1, 1) := by decide +kernel
theorem dX12_columnValues_16 : decode cX12_columnValues 16 = .ok (.iadd, 1) := by decide +kernel
theorem dX12_columnValues_17 : decode cX12_columnValues 17 = .ok (.iaload, 1) := by decide +kernel
theorem dX12_columnValues_18 : decode cX12_columnValues 18 = .ok (.invokevirtual 396, 3) := by decide +kernel
theorem dX12_columnValues_21 : decode cX12_columnValues 21 = .ok (.ireturn, 1) := by decide +kernel
theorem dX12_lays_0 : decode cX12_lays 0 = .ok (.aload_n 0, 1) := by decide +kernel
theorem dX12_lays_1 : decode cX12_lays 1 = .ok (.iconst 1, 1) := by decide +kernel
theorem dX12_lays_2 : decode cX12_lays 2 = .ok (.putfield 170, 3) := by decide +kernel
theorem dX12_lays_5 : decode cX12_lays 5 = .ok (.iconst 0, 1) := by decide +kernel
theorem dX12_lays_6 : decode cX12_lays 6 = .ok (.istore_n 1, 1) := by decide +kernel
theorem dX12_lays_7 : decode cX12_lays 7 = .ok (.iload_n 1, 1) := by decide +kernel
theorem dX12_lays_8 : decode cX12_lays 8 = .ok (.aload_n 0, 1) := by decide +kernel
theorem dX12_lays_9 : decode cX12_lays 9 = .ok (.invokevirtual 459, 3) := by decide +kernel
theorem dX12_lays_12 : decode cX12_lays 12 = .ok (.if_icmp .ge 184, 3) := by decide +kernel
theorem dX12_lays_15 : decode cX12_lays 15 = .ok (.iconst 0, 1) := by decide +kernel
theorem dX12_lays_16 : decode cX12_lays 16 = .ok (.istore_n 2, 1) := by decide +kernel
theorem dX12_lays_17 : decode cX12_lays 17 = .ok (.iload_n 2, 1) := by decide +kernel
theorem dX12_lays_18 : decode cX12_lays 18 = .ok (.sipush 4096, 3) := by decide +kernel
theorem dX12_lays_21 : decode cX12_lays 21 = .ok (.if_icmp .ge 16, 3) := by decide +kernel
theorem dX12_lays_24 : decode cX12_lays 24 = .ok (.aload_n 0, 1) := by decide +kernel
theorem dX12_lays_25 : decode cX12_lays 25 = .ok (.getfield 167, 3) := by decide +kernel
theorem dX12_lays_28 : decode cX12_lays 28 = .ok (.iload_n 2, 1) := by decide +kernel
theorem dX12_lays_29 : decode cX12_lays 29 = .ok (.iconst (-1), 1) := by decide +kernel
theorem dX12_lays_30 : decode cX12_lays 30 = .ok (.iastore, 1) := by decide +kernel
theorem dX12_lays_31 : decode cX12_lays 31 = .ok (.iinc 2 1, 3) := by decide +kernel
theorem dX12_lays_34 : decode cX12_lays 34 = .ok (.goto (-17), 3) := by decide +kernel
theorem dX12_lays_37 : decode cX12_lays 37 = .ok (.aload_n 0, 1) := by decide +kernel
theorem dX12_lays_38 : decode cX12_lays 38 = .ok (.getfield 164, 3) := by decide +kernel
theorem dX12_lays_41 : decode cX12_lays 41 = .ok (.iload_n 1, 1) := by decide +kernel
theorem dX12_lays_42 : decode cX12_lays 42 = .ok (.iconst 0, 1) := by decide +kernel
theorem dX12_lays_43 : decode cX12_lays 43 = .ok (.iastore, 1) := by decide +kernel
theorem dX12_lays_44 : decode cX12_lays 44 = .ok (.iconst 0, 1) := by decide +kernel
theorem dX12_lays_45 : decode cX12_lays 45 = .ok (.istore_n 2, 1) := by decide +kernel
theorem dX12_lays_46 : decode cX12_lays 46 = .ok (.iload_n 2, 1) := by decide +kernel
theorem dX12_lays_47 : decode cX12_lays 47 = .ok (.aload_n 0, 1) := by decide +kernel
theorem dX12_lays_48 : decode cX12_lays 48 = .ok (.iload_n 1, 1) := by decide +kernel
theorem dX12_lays_49 : decode cX12_lays 49 = .ok (.invokevirtual 463, 3) := by decide +kernel
theorem dX12_lays_52 : decode cX12_lays 52 = .ok (.if_icmp .ge 124, 3) := by decide +kernel
theorem dX12_lays_55 : decode cX12_lays 55 = .ok (.iconst 0, 1) := by decide +kernel
theorem dX12_lays_56 : decode cX12_lays 56 = .ok (.istore_n 3, 1) := by decide +kernel
theorem dX12_lays_57 : decode cX12_lays 57 = .ok (.iconst 0, 1) := by decide +kernel
theorem dX12_lays_58 : decode cX12_lays 58 = .ok (.istore 4, 2) := by decide +kernel
theorem dX12_lays_60 : decode cX12_lays 60 = .ok (.iload 4, 2) := by decide +kernel
theorem dX12_lays_62 : decode cX12_lays 62 = .ok (.aload_n 0, 1) := by decide +kernel
theorem dX12_lays_63 : decode cX12_lays 63 = .ok (.getfield 87, 3) := by decide +kernel
theorem dX12_lays_66 : decode cX12_lays 66 = .ok (.aload_n 0, 1) := by decide +kernel
theorem dX12_lays_67 : decode cX12_lays 67 = .ok (.getfield 51, 3) := by decide +kernel
theorem dX12_lays_70 : decode cX12_lays 70 = .ok (.iaload, 1) := by decide +kernel
theorem dX12_lays_71 : decode cX12_lays 71 = .ok (.if_icmp .ge 31, 3) := by decide +kernel
theorem dX12_lays_74 : decode cX12_lays 74 = .ok (.iload_n 3, 1) := by decide +kernel
theorem dX12_lays_75 : decode cX12_lays 75 = .ok (.aload_n 0, 1) := by decide +kernel
theorem dX12_lays_76 : decode cX12_lays 76 = .ok (.iload 4, 2) := by decide +kernel
theorem dX12_lays_78 : decode cX12_lays 78 = .ok (.iload_n 1, 1) := by decide +kernel
theorem dX12_lays_79 : decode cX12_lays 79 = .ok (.iload_n 2, 1) := by decide +kernel
theorem dX12_lays_80 : decode cX12_lays 80 = .ok (.invokevirtual 466, 3) := by decide +kernel
theorem dX12_lays_83 : decode cX12_lays 83 = .ok (.ifCond .eq 10, 3) := by decide +kernel
theorem dX12_lays_86 : decode cX12_lays 86 = .ok (.iconst 1, 1) := by decide +kernel
theorem dX12_lays_87 : decode cX12_lays 87 = .ok (.iload 4, 2) := by decide +kernel
theorem dX12_lays_89 : decode cX12_lays 89 = .ok (.ishl, 1) := by decide +kernel
theorem dX12_lays_90 : decode cX12_lays 90 = .ok (.goto 4, 3) := by decide +kernel
theorem dX12_lays_93 : decode cX12_lays 93 = .ok (.iconst 0, 1) := by decide +kernel
theorem dX12_lays_94 : decode cX12_lays 94 = .ok (.ior, 1) := by decide +kernel
theorem dX12_lays_95 : decode cX12_lays 95 = .ok (.istore_n 3, 1) := by decide +kernel
theorem dX12_lays_96 : decode cX12_lays 96 = .ok (.iinc 4 1, 3) := by decide +kernel
theorem dX12_lays_99 : decode cX12_lays 99 = .ok (.goto (-39), 3) := by decide +kernel
theorem dX12_lays_102 : decode cX12_lays 102 = .ok (.aload_n 0, 1) := by decide +kernel
theorem dX12_lays_103 : decode cX12_lays 103 = .ok (.getfield 167, 3) := by decide +kernel
theorem dX12_lays_106 : decode cX12_lays 106 = .ok (.iload_n 3, 1) := by decide +kernel
theorem dX12_lays_107 : decode cX12_lays 107 = .ok (.iaload, 1) := by decide +kernel
theorem dX12_lays_108 : decode cX12_lays 108 = .ok (.iconst (-1), 1) := by decide +kernel
theorem dX12_lays_109 : decode cX12_lays 109 = .ok (.if_icmp .ne 43, 3) := by decide +kernel
theorem dX12_lays_112 : decode cX12_lays 112 = .ok (.aload_n 0, 1) := by decide +kernel
theorem dX12_lays_113 : decode cX12_lays 113 = .ok (.getfield 167, 3) := by decide +kernel
theorem dX12_lays_116 : decode cX12_lays 116 = .ok (.iload_n 3, 1) := by decide +kernel
theorem dX12_lays_117 : decode cX12_lays 117 = .ok (.aload_n 0, 1) := by decide +kernel
theorem dX12_lays_118 : decode cX12_lays 118 = .ok (.getfield 164, 3) := by decide +kernel
theorem dX12_lays_121 : decode cX12_lays 121 = .ok (.iload_n 1, 1) := by decide +kernel
theorem dX12_lays_122 : decode cX12_lays 122 = .ok (.iaload, 1) := by decide +kernel
theorem dX12_lays_123 : decode cX12_lays 123 = .ok (.iastore, 1) := by decide +kernel
theorem dX12_lays_124 : decode cX12_lays 124 = .ok (.aload_n 0, 1) := by decide +kernel
theorem dX12_lays_125 : decode cX12_lays 125 = .ok (.getfield 161, 3) := by decide +kernel
theorem dX12_lays_128 : decode cX12_lays 128 = .ok (.sipush 2010, 3) := by decide +kernel
theorem dX12_lays_131 : decode cX12_lays 131 = .ok (.iload_n 1, 1) := by decide +kernel
theorem dX12_lays_132 : decode cX12_lays 132 = .ok (.imul, 1) := by decide +kernel
theorem dX12_lays_133 : decode cX12_lays 133 = .ok (.aload_n 0, 1) := by decide +kernel
theorem dX12_lays_134 : decode cX12_lays 134 = .ok (.getfield 164, 3) := by decide +kernel
theorem dX12_lays_137 : decode cX12_lays 137 = .ok (.iload_n 1, 1) := by decide +kernel
theorem dX12_lays_138 : decode cX12_lays 138 = .ok (.iaload, 1) := by decide +kernel
theorem dX12_lays_139 : decode cX12_lays 139 = .ok (.iadd, 1) := by decide +kernel
theorem dX12_lays_140 : decode cX12_lays 140 = .ok (.iload_n 3, 1) := by decide +kernel
theorem dX12_lays_141 : decode cX12_lays 141 = .ok (.iastore, 1) := by decide +kernel
theorem dX12_lays_142 : decode cX12_lays 142 = .ok (.aload_n 0, 1) := by decide +kernel
theorem dX12_lays_143 : decode cX12_lays 143 = .ok (.getfield 164, 3) := by decide +kernel
theorem dX12_lays_146 : decode cX12_lays 146 = .ok (.iload_n 1, 1) := by decide +kernel
theorem dX12_lays_147 : decode cX12_lays 147 = .ok (.dup2, 1) := by decide +kernel
theorem dX12_lays_148 : decode cX12_lays 148 = .ok (.iaload, 1) := by decide +kernel
theorem dX12_lays_149 : decode cX12_lays 149 = .ok (.iconst 1, 1) := by decide +kernel
theorem dX12_lays_150 : decode cX12_lays 150 = .ok (.iadd, 1) := by decide +kernel
theorem dX12_lays_151 : decode cX12_lays 151 = .ok (.iastore, 1) := by decide +kernel
theorem dX12_lays_152 : decode cX12_lays 152 = .ok (.aload_n 0, 1) := by decide +kernel
theorem dX12_lays_153 : decode cX12_lays 153 = .ok (.getfield 158, 3) := by decide +kernel
theorem dX12_lays_156 : decode cX12_lays 156 = .ok (.sipush 2010, 3) := by decide +kernel
theorem dX12_lays_159 : decode cX12_lays 159 = .ok (.iload_n 1, 1) := by decide +kernel
theorem dX12_lays_160 : decode cX12_lays 160 = .ok (.imul, 1) := by decide +kernel
theorem dX12_lays_161 : decode cX12_lays 161 = .ok (.iload_n 2, 1) := by decide +kernel
theorem dX12_lays_162 : decode cX12_lays 162 = .ok (.iadd, 1) := by decide +kernel
theorem dX12_lays_163 : decode cX12_lays 163 = .ok (.aload_n 0, 1) := by decide +kernel
theorem dX12_lays_164 : decode cX12_lays 164 = .ok (.getfield 167, 3) := by decide +kernel
theorem dX12_lays_167 : decode cX12_lays 167 = .ok (.iload_n 3, 1) := by decide +kernel
theorem dX12_lays_168 : decode cX12_lays 168 = .ok (.iaload, 1) := by decide +kernel
theorem dX12_lays_169 : decode cX12_lays 169 = .ok (.iastore, 1) := by decide +kernel
theorem dX12_lays_170 : decode cX12_lays 170 = .ok (.iinc 2 1, 3) := by decide +kernel
theorem dX12_lays_173 : decode cX12_lays 173 = .ok (.goto (-127), 3) := by decide +kernel
theorem dX12_lays_176 : decode cX12_lays 176 = .ok (.aload_n 0, 1) := by decide +kernel
theorem dX12_lays_177 : decode cX12_lays 177 = .ok (.dup, 1) := by decide +kernel
theorem dX12_lays_178 : decode cX12_lays 178 = .ok (.getfield 170, 3) := by decide +kernel
theorem dX12_lays_181 : decode cX12_lays 181 = .ok (.aload_n 0, 1) := by decide +kernel
theorem dX12_lays_182 : decode cX12_lays 182 = .ok (.iload_n 1, 1) := by decide +kernel
theorem dX12_lays_183 : decode cX12_lays 183 = .ok (.invokevirtual 463, 3) := by decide +kernel
theorem dX12_lays_186 : decode cX12_lays 186 = .ok (.imul, 1) := by decide +kernel
theorem dX12_lays_187 : decode cX12_lays 187 = .ok (.putfield 170, 3) := by decide +kernel
theorem dX12_lays_190 : decode cX12_lays 190 = .ok (.iinc 1 1, 3) := by decide +kernel
theorem dX12_lays_193 : decode cX12_lays 193 = .ok (.goto (-186), 3) := by decide +kernel
theorem dX12_lays_196 : decode cX12_lays 196 = .ok (.return_, 1) := by decide +kernel
theorem dX12_copies_0 : decode cX12_copies 0 = .ok (.aload_n 0, 1) := by decide +kernel
theorem dX12_copies_1 : decode cX12_copies 1 = .ok (.getfield 173, 3) := by decide +kernel
theorem dX12_copies_4 : decode cX12_copies 4 = .ok (.iload_n 1, 1) := by decide +kernel
theorem dX12_copies_5 : decode cX12_copies 5 = .ok (.aload_n 0, 1) := by decide +kernel
theorem dX12_copies_6 : decode cX12_copies 6 = .ok (.getfield 173, 3) := by decide +kernel
theorem dX12_copies_9 : decode cX12_copies 9 = .ok (.iload_n 2, 1) := by decide +kernel
theorem dX12_copies_10 : decode cX12_copies 10 = .ok (.iaload, 1) := by decide +kernel
theorem dX12_copies_11 : decode cX12_copies 11 = .ok (.iastore, 1) := by decide +kernel
theorem dX12_copies_12 : decode cX12_copies 12 = .ok (.iconst 0, 1) := by decide +kernel
theorem dX12_copies_13 : decode cX12_copies 13 = .ok (.istore_n 3, 1) := by decide +kernel
theorem dX12_copies_14 : decode cX12_copies 14 = .ok (.iload_n 3, 1) := by decide +kernel
theorem dX12_copies_15 : decode cX12_copies 15 = .ok (.bipush 12, 2) := by decide +kernel
theorem dX12_copies_17 : decode cX12_copies 17 = .ok (.if_icmp .ge 31, 3) := by decide +kernel
theorem dX12_copies_20 : decode cX12_copies 20 = .ok (.aload_n 0, 1) := by decide +kernel
theorem dX12_copies_21 : decode cX12_copies 21 = .ok (.getfield 176, 3) := by decide +kernel
theorem dX12_copies_24 : decode cX12_copies 24 = .ok (.bipush 12, 2) := by decide +kernel
theorem dX12_copies_26 : decode cX12_copies 26 = .ok (.iload_n 1, 1) := by decide +kernel
theorem dX12_copies_27 : decode cX12_copies 27 = .ok (.imul, 1) := by decide +kernel
theorem dX12_copies_28 : decode cX12_copies 28 = .ok (.iload_n 3, 1) := by decide +kernel
theorem dX12_copies_29 : decode cX12_copies 29 = .ok (.iadd, 1) := by decide +kernel
theorem dX12_copies_30 : decode cX12_copies 30 = .ok (.aload_n 0, 1) := by decide +kernel
theorem dX12_copies_31 : decode cX12_copies 31 = .ok (.getfield 176, 3) := by decide +kernel
theorem dX12_copies_34 : decode cX12_copies 34 = .ok (.bipush 12, 2) := by decide +kernel
theorem dX12_copies_36 : decode cX12_copies 36 = .ok (.iload_n 2, 1) := by decide +kernel
theorem dX12_copies_37 : decode cX12_copies 37 = .ok (.imul, 1) := by decide +kernel
theorem dX12_copies_38 : decode cX12_copies 38 = .ok (.iload_n 3, 1) := by decide +kernel
theorem dX12_copies_39 : decode cX12_copies 39 = .ok (.iadd, 1) := by decide +kernel
theorem dX12_copies_40 : decode cX12_copies 40 = .ok (.iaload, 1) := by decide +kernel
theorem dX12_copies_41 : decode cX12_copies 41 = .ok (.iastore, 1) := by decide +kernel
theorem dX12_copies_42 : decode cX12_copies 42 = .ok (.iinc 3 1, 3) := by decide +kernel
theorem dX12_copies_45 : decode cX12_copies 45 = .ok (.goto (-31), 3) := by decide +kernel
