theorem dX12_goesOn_174 : decode cX12_goesOn 174 = .ok (.ifCond .ne 7, 3) := by decide +kernel
theorem dX12_goesOn_177 : decode cX12_goesOn 177 = .ok (.iconst 1, 1) := by decide +kernel
theorem dX12_goesOn_178 : decode cX12_goesOn 178 = .ok (.goto 4, 3) := by decide +kernel
theorem dX12_goesOn_181 : decode cX12_goesOn 181 = .ok (.iconst 0, 1) := by decide +kernel
theorem dX12_goesOn_182 : decode cX12_goesOn 182 = .ok (.ireturn, 1) := by decide +kernel
theorem dX12_goesOn_183 : decode cX12_goesOn 183 = .ok (.aload_n 0, 1) := by decide +kernel
theorem dX12_goesOn_184 : decode cX12_goesOn 184 = .ok (.bipush 41, 2) := by decide +kernel
theorem dX12_goesOn_186 : decode cX12_goesOn 186 = .ok (.invokevirtual 413, 3) := by decide +kernel
theorem dX12_goesOn_189 : decode cX12_goesOn 189 = .ok (.goto (-189), 3) := by decide +kernel
theorem dX12_goesOn_192 : decode cX12_goesOn 192 = .ok (.iconst 0, 1) := by decide +kernel
theorem dX12_goesOn_193 : decode cX12_goesOn 193 = .ok (.ireturn, 1) := by decide +kernel
theorem dX12_pattern_0 : decode cX12_pattern 0 = .ok (.aload_n 0, 1) := by decide +kernel
theorem dX12_pattern_1 : decode cX12_pattern 1 = .ok (.iconst 0, 1) := by decide +kernel
theorem dX12_pattern_2 : decode cX12_pattern 2 = .ok (.putfield 143, 3) := by decide +kernel
theorem dX12_pattern_5 : decode cX12_pattern 5 = .ok (.aload_n 0, 1) := by decide +kernel
theorem dX12_pattern_6 : decode cX12_pattern 6 = .ok (.iload_n 1, 1) := by decide +kernel
theorem dX12_pattern_7 : decode cX12_pattern 7 = .ok (.invokevirtual 404, 3) := by decide +kernel
theorem dX12_pattern_10 : decode cX12_pattern 10 = .ok (.iconst 1, 1) := by decide +kernel
theorem dX12_pattern_11 : decode cX12_pattern 11 = .ok (.istore_n 2, 1) := by decide +kernel
theorem dX12_pattern_12 : decode cX12_pattern 12 = .ok (.iload_n 2, 1) := by decide +kernel
theorem dX12_pattern_13 : decode cX12_pattern 13 = .ok (.ifCond .eq 26, 3) := by decide +kernel
theorem dX12_pattern_16 : decode cX12_pattern 16 = .ok (.aload_n 0, 1) := by decide +kernel
theorem dX12_pattern_17 : decode cX12_pattern 17 = .ok (.getfield 36, 3) := by decide +kernel
theorem dX12_pattern_20 : decode cX12_pattern 20 = .ok (.ifCond .ne 19, 3) := by decide +kernel
theorem dX12_pattern_23 : decode cX12_pattern 23 = .ok (.aload_n 0, 1) := by decide +kernel
theorem dX12_pattern_24 : decode cX12_pattern 24 = .ok (.invokevirtual 419, 3) := by decide +kernel
theorem dX12_pattern_27 : decode cX12_pattern 27 = .ok (.ifCond .eq (-15), 3) := by decide +kernel
theorem dX12_pattern_30 : decode cX12_pattern 30 = .ok (.aload_n 0, 1) := by decide +kernel
theorem dX12_pattern_31 : decode cX12_pattern 31 = .ok (.iconst 0, 1) := by decide +kernel
theorem dX12_pattern_32 : decode cX12_pattern 32 = .ok (.invokevirtual 422, 3) := by decide +kernel
theorem dX12_pattern_35 : decode cX12_pattern 35 = .ok (.istore_n 2, 1) := by decide +kernel
theorem dX12_pattern_36 : decode cX12_pattern 36 = .ok (.goto (-24), 3) := by decide +kernel
theorem dX12_pattern_39 : decode cX12_pattern 39 = .ok (.return_, 1) := by decide +kernel
theorem dX12_armIs_0 : decode cX12_armIs 0 = .ok (.aload_n 0, 1) := by decide +kernel
theorem dX12_armIs_1 : decode cX12_armIs 1 = .ok (.getfield 127, 3) := by decide +kernel
theorem dX12_armIs_4 : decode cX12_armIs 4 = .ok (.ifCond .ne 12, 3) := by decide +kernel
theorem dX12_armIs_7 : decode cX12_armIs 7 = .ok (.aload_n 0, 1) := by decide +kernel
theorem dX12_armIs_8 : decode cX12_armIs 8 = .ok (.iconst 1, 1) := by decide +kernel
theorem dX12_armIs_9 : decode cX12_armIs 9 = .ok (.aload_n 0, 1) := by decide +kernel
theorem dX12_armIs_10 : decode cX12_armIs 10 = .ok (.getfield 23, 3) := by decide +kernel
theorem dX12_armIs_13 : decode cX12_armIs 13 = .ok (.invokevirtual 320, 3) := by decide +kernel
theorem dX12_armIs_16 : decode cX12_armIs 16 = .ok (.aload_n 0, 1) := by decide +kernel
theorem dX12_armIs_17 : decode cX12_armIs 17 = .ok (.aload_n 0, 1) := by decide +kernel
theorem dX12_armIs_18 : decode cX12_armIs 18 = .ok (.getfield 87, 3) := by decide +kernel
theorem dX12_armIs_21 : decode cX12_armIs 21 = .ok (.aload_n 0, 1) := by decide +kernel
theorem dX12_armIs_22 : decode cX12_armIs 22 = .ok (.getfield 124, 3) := by decide +kernel
theorem dX12_armIs_25 : decode cX12_armIs 25 = .ok (.iaload, 1) := by decide +kernel
theorem dX12_armIs_26 : decode cX12_armIs 26 = .ok (.bipush 12, 2) := by decide +kernel
theorem dX12_armIs_28 : decode cX12_armIs 28 = .ok (.if_icmp .ne 7, 3) := by decide +kernel
theorem dX12_armIs_31 : decode cX12_armIs 31 = .ok (.iconst 1, 1) := by decide +kernel
theorem dX12_armIs_32 : decode cX12_armIs 32 = .ok (.goto 4, 3) := by decide +kernel
theorem dX12_armIs_35 : decode cX12_armIs 35 = .ok (.iconst 0, 1) := by decide +kernel
theorem dX12_armIs_36 : decode cX12_armIs 36 = .ok (.invokevirtual 378, 3) := by decide +kernel
theorem dX12_armIs_39 : decode cX12_armIs 39 = .ok (.ifCond .ne 4, 3) := by decide +kernel
theorem dX12_armIs_42 : decode cX12_armIs 42 = .ok (.return_, 1) := by decide +kernel
theorem dX12_armIs_43 : decode cX12_armIs 43 = .ok (.bipush 12, 2) := by decide +kernel
theorem dX12_armIs_45 : decode cX12_armIs 45 = .ok (.aload_n 0, 1) := by decide +kernel
theorem dX12_armIs_46 : decode cX12_armIs 46 = .ok (.getfield 124, 3) := by decide +kernel
theorem dX12_armIs_49 : decode cX12_armIs 49 = .ok (.imul, 1) := by decide +kernel
theorem dX12_armIs_50 : decode cX12_armIs 50 = .ok (.aload_n 0, 1) := by decide +kernel
theorem dX12_armIs_51 : decode cX12_armIs 51 = .ok (.getfield 87, 3) := by decide +kernel
theorem dX12_armIs_54 : decode cX12_armIs 54 = .ok (.aload_n 0, 1) := by decide +kernel
theorem dX12_armIs_55 : decode cX12_armIs 55 = .ok (.getfield 124, 3) := by decide +kernel
theorem dX12_armIs_58 : decode cX12_armIs 58 = .ok (.iaload, 1) := by decide +kernel
theorem dX12_armIs_59 : decode cX12_armIs 59 = .ok (.iadd, 1) := by decide +kernel
theorem dX12_armIs_60 : decode cX12_armIs 60 = .ok (.istore_n 1, 1) := by decide +kernel
theorem dX12_armIs_61 : decode cX12_armIs 61 = .ok (.iconst 0, 1) := by decide +kernel
theorem dX12_armIs_62 : decode cX12_armIs 62 = .ok (.istore_n 2, 1) := by decide +kernel
theorem dX12_armIs_63 : decode cX12_armIs 63 = .ok (.iload_n 2, 1) := by decide +kernel
theorem dX12_armIs_64 : decode cX12_armIs 64 = .ok (.aload_n 0, 1) := by decide +kernel
theorem dX12_armIs_65 : decode cX12_armIs 65 = .ok (.getfield 81, 3) := by decide +kernel
theorem dX12_armIs_68 : decode cX12_armIs 68 = .ok (.aload_n 0, 1) := by decide +kernel
theorem dX12_armIs_69 : decode cX12_armIs 69 = .ok (.getfield 124, 3) := by decide +kernel
theorem dX12_armIs_72 : decode cX12_armIs 72 = .ok (.iaload, 1) := by decide +kernel
theorem dX12_armIs_73 : decode cX12_armIs 73 = .ok (.if_icmp .ge 78, 3) := by decide +kernel
theorem dX12_armIs_76 : decode cX12_armIs 76 = .ok (.aload_n 0, 1) := by decide +kernel
theorem dX12_armIs_77 : decode cX12_armIs 77 = .ok (.getfield 36, 3) := by decide +kernel
theorem dX12_armIs_80 : decode cX12_armIs 80 = .ok (.ifCond .ne 71, 3) := by decide +kernel
theorem dX12_armIs_83 : decode cX12_armIs 83 = .ok (.iload_n 2, 1) := by decide +kernel
theorem dX12_armIs_84 : decode cX12_armIs 84 = .ok (.ifCond .le 9, 3) := by decide +kernel
theorem dX12_armIs_87 : decode cX12_armIs 87 = .ok (.aload_n 0, 1) := by decide +kernel
theorem dX12_armIs_88 : decode cX12_armIs 88 = .ok (.bipush 44, 2) := by decide +kernel
theorem dX12_armIs_90 : decode cX12_armIs 90 = .ok (.invokevirtual 413, 3) := by decide +kernel
theorem dX12_armIs_93 : decode cX12_armIs 93 = .ok (.aload_n 0, 1) := by decide +kernel
theorem dX12_armIs_94 : decode cX12_armIs 94 = .ok (.getfield 99, 3) := by decide +kernel
theorem dX12_armIs_97 : decode cX12_armIs 97 = .ok (.iconst 4, 1) := by decide +kernel
theorem dX12_armIs_98 : decode cX12_armIs 98 = .ok (.iload_n 1, 1) := by decide +kernel
theorem dX12_armIs_99 : decode cX12_armIs 99 = .ok (.imul, 1) := by decide +kernel
theorem dX12_armIs_100 : decode cX12_armIs 100 = .ok (.iload_n 2, 1) := by decide +kernel
theorem dX12_armIs_101 : decode cX12_armIs 101 = .ok (.iadd, 1) := by decide +kernel
theorem dX12_armIs_102 : decode cX12_armIs 102 = .ok (.aload_n 0, 1) := by decide +kernel
theorem dX12_armIs_103 : decode cX12_armIs 103 = .ok (.getfield 121, 3) := by decide +kernel
theorem dX12_armIs_106 : decode cX12_armIs 106 = .ok (.iastore, 1) := by decide +kernel
theorem dX12_armIs_107 : decode cX12_armIs 107 = .ok (.aload_n 0, 1) := by decide +kernel
theorem dX12_armIs_108 : decode cX12_armIs 108 = .ok (.getfield 36, 3) := by decide +kernel
theorem dX12_armIs_111 : decode cX12_armIs 111 = .ok (.ifCond .ne 20, 3) := by decide +kernel
theorem dX12_armIs_114 : decode cX12_armIs 114 = .ok (.aload_n 0, 1) := by decide +kernel
theorem dX12_armIs_115 : decode cX12_armIs 115 = .ok (.aload_n 0, 1) := by decide +kernel
theorem dX12_armIs_116 : decode cX12_armIs 116 = .ok (.getfield 84, 3) := by decide +kernel
theorem dX12_armIs_119 : decode cX12_armIs 119 = .ok (.iconst 4, 1) := by decide +kernel
theorem dX12_armIs_120 : decode cX12_armIs 120 = .ok (.aload_n 0, 1) := by decide +kernel
theorem dX12_armIs_121 : decode cX12_armIs 121 = .ok (.getfield 124, 3) := by decide +kernel
theorem dX12_armIs_124 : decode cX12_armIs 124 = .ok (.imul, 1) := by decide +kernel
theorem dX12_armIs_125 : decode cX12_armIs 125 = .ok (.iload_n 2, 1) := by decide +kernel
theorem dX12_armIs_126 : decode cX12_armIs 126 = .ok (.iadd, 1) := by decide +kernel
theorem dX12_armIs_127 : decode cX12_armIs 127 = .ok (.iaload, 1) := by decide +kernel
theorem dX12_armIs_128 : decode cX12_armIs 128 = .ok (.invokevirtual 425, 3) := by decide +kernel
theorem dX12_armIs_131 : decode cX12_armIs 131 = .ok (.aload_n 0, 1) := by decide +kernel
theorem dX12_armIs_132 : decode cX12_armIs 132 = .ok (.getfield 102, 3) := by decide +kernel
theorem dX12_armIs_135 : decode cX12_armIs 135 = .ok (.iconst 4, 1) := by decide +kernel
theorem dX12_armIs_136 : decode cX12_armIs 136 = .ok (.iload_n 1, 1) := by decide +kernel
theorem dX12_armIs_137 : decode cX12_armIs 137 = .ok (.imul, 1) := by decide +kernel
theorem dX12_armIs_138 : decode cX12_armIs 138 = .ok (.iload_n 2, 1) := by decide +kernel
theorem dX12_armIs_139 : decode cX12_armIs 139 = .ok (.iadd, 1) := by decide +kernel
theorem dX12_armIs_140 : decode cX12_armIs 140 = .ok (.aload_n 0, 1) := by decide +kernel
theorem dX12_armIs_141 : decode cX12_armIs 141 = .ok (.getfield 121, 3) := by decide +kernel
theorem dX12_armIs_144 : decode cX12_armIs 144 = .ok (.iastore, 1) := by decide +kernel
theorem dX12_armIs_145 : decode cX12_armIs 145 = .ok (.iinc 2 1, 3) := by decide +kernel
theorem dX12_armIs_148 : decode cX12_armIs 148 = .ok (.goto (-85), 3) := by decide +kernel
theorem dX12_armIs_151 : decode cX12_armIs 151 = .ok (.aload_n 0, 1) := by decide +kernel
theorem dX12_armIs_152 : decode cX12_armIs 152 = .ok (.getfield 90, 3) := by decide +kernel
theorem dX12_armIs_155 : decode cX12_armIs 155 = .ok (.iload_n 1, 1) := by decide +kernel
theorem dX12_armIs_156 : decode cX12_armIs 156 = .ok (.iconst (-1), 1) := by decide +kernel
theorem dX12_armIs_157 : decode cX12_armIs 157 = .ok (.iastore, 1) := by decide +kernel
theorem dX12_armIs_158 : decode cX12_armIs 158 = .ok (.aload_n 0, 1) := by decide +kernel
theorem dX12_armIs_159 : decode cX12_armIs 159 = .ok (.invokevirtual 331, 3) := by decide +kernel
theorem dX12_armIs_162 : decode cX12_armIs 162 = .ok (.aload_n 0, 1) := by decide +kernel
theorem dX12_armIs_163 : decode cX12_armIs 163 = .ok (.getfield 36, 3) := by decide +kernel
theorem dX12_armIs_166 : decode cX12_armIs 166 = .ok (.ifCond .ne 30, 3) := by decide +kernel
theorem dX12_armIs_169 : decode cX12_armIs 169 = .ok (.aload_n 0, 1) := by decide +kernel
theorem dX12_armIs_170 : decode cX12_armIs 170 = .ok (.ldc2_w 348, 3) := by decide +kernel
theorem dX12_armIs_173 : decode cX12_armIs 173 = .ok (.invokevirtual 386, 3) := by decide +kernel
theorem dX12_armIs_176 : decode cX12_armIs 176 = .ok (.ifCond .eq 20, 3) := by decide +kernel
theorem dX12_armIs_179 : decode cX12_armIs 179 = .ok (.aload_n 0, 1) := by decide +kernel
theorem dX12_armIs_180 : decode cX12_armIs 180 = .ok (.invokevirtual 337, 3) := by decide +kernel
theorem dX12_armIs_183 : decode cX12_armIs 183 = .ok (.aload_n 0, 1) := by decide +kernel
theorem dX12_armIs_184 : decode cX12_armIs 184 = .ok (.getfield 90, 3) := by decide +kernel
theorem dX12_armIs_187 : decode cX12_armIs 187 = .ok (.iload_n 1, 1) := by decide +kernel
theorem dX12_armIs_188 : decode cX12_armIs 188 = .ok (.aload_n 0, 1) := by decide +kernel
theorem dX12_armIs_189 : decode cX12_armIs 189 = .ok (.iconst 0, 1) := by decide +kernel
theorem dX12_armIs_190 : decode cX12_armIs 190 = .ok (.bipush 7, 2) := by decide +kernel
theorem dX12_armIs_192 : decode cX12_armIs 192 = .ok (.invokevirtual 407, 3) := by decide +kernel
theorem dX12_armIs_195 : decode cX12_armIs 195 = .ok (.iastore, 1) := by decide +kernel
theorem dX12_armIs_196 : decode cX12_armIs 196 = .ok (.aload_n 0, 1) := by decide +kernel
theorem dX12_armIs_197 : decode cX12_armIs 197 = .ok (.getfield 36, 3) := by decide +kernel
theorem dX12_armIs_200 : decode cX12_armIs 200 = .ok (.ifCond .ne 16, 3) := by decide +kernel
theorem dX12_armIs_203 : decode cX12_armIs 203 = .ok (.aload_n 0, 1) := by decide +kernel
theorem dX12_armIs_204 : decode cX12_armIs 204 = .ok (.getfield 87, 3) := by decide +kernel
theorem dX12_armIs_207 : decode cX12_armIs 207 = .ok (.aload_n 0, 1) := by decide +kernel
theorem dX12_armIs_208 : decode cX12_armIs 208 = .ok (.getfield 124, 3) := by decide +kernel
theorem dX12_armIs_211 : decode cX12_armIs 211 = .ok (.dup2, 1) := by decide +kernel
theorem dX12_armIs_212 : decode cX12_armIs 212 = .ok (.iaload, 1) := by decide +kernel
theorem dX12_armIs_213 : decode cX12_armIs 213 = .ok (.iconst 1, 1) := by decide +kernel
theorem dX12_armIs_214 : decode cX12_armIs 214 = .ok (.iadd, 1) := by decide +kernel
theorem dX12_armIs_215 : decode cX12_armIs 215 = .ok (.iastore, 1) := by decide +kernel
theorem dX12_armIs_216 : decode cX12_armIs 216 = .ok (.return_, 1) := by decide +kernel
theorem dX12_ruleIs_0 : decode cX12_ruleIs 0 = .ok (.aload_n 0, 1) := by decide +kernel
theorem dX12_ruleIs_1 : decode cX12_ruleIs 1 = .ok (.iconst 0, 1) := by decide +kernel
theorem dX12_ruleIs_2 : decode cX12_ruleIs 2 = .ok (.invokevirtual 378, 3) := by decide +kernel
theorem dX12_ruleIs_5 : decode cX12_ruleIs 5 = .ok (.ifCond .ne 4, 3) := by decide +kernel
theorem dX12_ruleIs_8 : decode cX12_ruleIs 8 = .ok (.return_, 1) := by decide +kernel
theorem dX12_ruleIs_9 : decode cX12_ruleIs 9 = .ok (.aload_n 0, 1) := by decide +kernel
theorem dX12_ruleIs_10 : decode cX12_ruleIs 10 = .ok (.getfield 93, 3) := by decide +kernel
theorem dX12_ruleIs_13 : decode cX12_ruleIs 13 = .ok (.aload_n 0, 1) := by decide +kernel
theorem dX12_ruleIs_14 : decode cX12_ruleIs 14 = .ok (.getfield 124, 3) := by decide +kernel
theorem dX12_ruleIs_17 : decode cX12_ruleIs 17 = .ok (.aload_n 0, 1) := by decide +kernel
theorem dX12_ruleIs_18 : decode cX12_ruleIs 18 = .ok (.iconst 0, 1) := by decide +kernel
theorem dX12_ruleIs_19 : decode cX12_ruleIs 19 = .ok (.iconst 3, 1) := by decide +kernel
theorem dX12_ruleIs_20 : decode cX12_ruleIs 20 = .ok (.invokevirtual 407, 3) := by decide +kernel
theorem dX12_ruleIs_23 : decode cX12_ruleIs 23 = .ok (.iastore, 1) := by decide +kernel
theorem dX12_ruleIs_24 : decode cX12_ruleIs 24 = .ok (.return_, 1) := by decide +kernel
theorem dX12_budgetIs_0 : decode cX12_budgetIs 0 = .ok (.aload_n 0, 1) := by decide +kernel
theorem dX12_budgetIs_1 : decode cX12_budgetIs 1 = .ok (.iconst 0, 1) := by decide +kernel
theorem dX12_budgetIs_2 : decode cX12_budgetIs 2 = .ok (.invokevirtual 378, 3) := by decide +kernel
theorem dX12_budgetIs_5 : decode cX12_budgetIs 5 = .ok (.ifCond .ne 4, 3) := by decide +kernel
theorem dX12_budgetIs_8 : decode cX12_budgetIs 8 = .ok (.return_, 1) := by decide +kernel
theorem dX12_budgetIs_9 : decode cX12_budgetIs 9 = .ok (.aload_n 0, 1) := by decide +kernel
theorem dX12_budgetIs_10 : decode cX12_budgetIs 10 = .ok (.getfield 96, 3) := by decide +kernel
theorem dX12_budgetIs_13 : decode cX12_budgetIs 13 = .ok (.aload_n 0, 1) := by decide +kernel
theorem dX12_budgetIs_14 : decode cX12_budgetIs 14 = .ok (.getfield 124, 3) := by decide +kernel
theorem dX12_budgetIs_17 : decode cX12_budgetIs 17 = .ok (.aload_n 0, 1) := by decide +kernel
theorem dX12_budgetIs_18 : decode cX12_budgetIs 18 = .ok (.iconst 1, 1) := by decide +kernel
theorem dX12_budgetIs_19 : decode cX12_budgetIs 19 = .ok (.sipush 999, 3) := by decide +kernel
theorem dX12_budgetIs_22 : decode cX12_budgetIs 22 = .ok (.invokevirtual 407, 3) := by decide +kernel
theorem dX12_budgetIs_25 : decode cX12_budgetIs 25 = .ok (.iastore, 1) := by decide +kernel
theorem dX12_budgetIs_26 : decode cX12_budgetIs 26 = .ok (.return_, 1) := by decide +kernel
theorem dX12_statement_0 : decode cX12_statement 0 = .ok (.aload_n 0, 1) := by decide +kernel
theorem dX12_statement_1 : decode cX12_statement 1 = .ok (.invokevirtual 331, 3) := by decide +kernel
theorem dX12_statement_4 : decode cX12_statement 4 = .ok (.aload_n 0, 1) := by decide +kernel
theorem dX12_statement_5 : decode cX12_statement 5 = .ok (.getfield 36, 3) := by decide +kernel
theorem dX12_statement_8 : decode cX12_statement 8 = .ok (.ifCond .le 4, 3) := by decide +kernel
theorem dX12_statement_11 : decode cX12_statement 11 = .ok (.return_, 1) := by decide +kernel
theorem dX12_statement_12 : decode cX12_statement 12 = .ok (.aload_n 0, 1) := by decide +kernel
theorem dX12_statement_13 : decode cX12_statement 13 = .ok (.ldc2_w 340, 3) := by decide +kernel
theorem dX12_statement_16 : decode cX12_statement 16 = .ok (.invokevirtual 386, 3) := by decide +kernel
theorem dX12_statement_19 : decode cX12_statement 19 = .ok (.ifCond .eq 10, 3) := by decide +kernel
theorem dX12_statement_22 : decode cX12_statement 22 = .ok (.aload_n 0, 1) := by decide +kernel
theorem dX12_statement_23 : decode cX12_statement 23 = .ok (.invokevirtual 428, 3) := by decide +kernel
theorem dX12_statement_26 : decode cX12_statement 26 = .ok (.goto 97, 3) := by decide +kernel
theorem dX12_statement_29 : decode cX12_statement 29 = .ok (.aload_n 0, 1) := by decide +kernel
theorem dX12_statement_30 : decode cX12_statement 30 = .ok (.ldc2_w 342, 3) := by decide +kernel
theorem dX12_statement_33 : decode cX12_statement 33 = .ok (.invokevirtual 386, 3) := by decide +kernel
theorem dX12_statement_36 : decode cX12_statement 36 = .ok (.ifCond .eq 10, 3) := by decide +kernel
theorem dX12_statement_39 : decode cX12_statement 39 = .ok (.aload_n 0, 1) := by decide +kernel
theorem dX12_statement_40 : decode cX12_statement 40 = .ok (.invokevirtual 431, 3) := by decide +kernel
theorem dX12_statement_43 : decode cX12_statement 43 = .ok (.goto 80, 3) := by decide +kernel
theorem dX12_statement_46 : decode cX12_statement 46 = .ok (.aload_n 0, 1) := by decide +kernel
theorem dX12_statement_47 : decode cX12_statement 47 = .ok (.ldc2_w 344, 3) := by decide +kernel
theorem dX12_statement_50 : decode cX12_statement 50 = .ok (.invokevirtual 386, 3) := by decide +kernel
theorem dX12_statement_53 : decode cX12_statement 53 = .ok (.ifCond .eq 10, 3) := by decide +kernel
theorem dX12_statement_56 : decode cX12_statement 56 = .ok (.aload_n 0, 1) := by decide +kernel
theorem dX12_statement_57 : decode cX12_statement 57 = .ok (.invokevirtual 434, 3) := by decide +kernel
theorem dX12_statement_60 : decode cX12_statement 60 = .ok (.goto 63, 3) := by decide +kernel
theorem dX12_statement_63 : decode cX12_statement 63 = .ok (.aload_n 0, 1) := by decide +kernel
theorem dX12_statement_64 : decode cX12_statement 64 = .ok (.ldc2_w 346, 3) := by decide +kernel
theorem dX12_statement_67 : decode cX12_statement 67 = .ok (.invokevirtual 386, 3) := by decide +kernel
theorem dX12_statement_70 : decode cX12_statement 70 = .ok (.ifCond .eq 10, 3) := by decide +kernel
theorem dX12_statement_73 : decode cX12_statement 73 = .ok (.aload_n 0, 1) := by decide +kernel
theorem dX12_statement_74 : decode cX12_statement 74 = .ok (.invokevirtual 437, 3) := by decide +kernel
theorem dX12_statement_77 : decode cX12_statement 77 = .ok (.goto 46, 3) := by decide +kernel
theorem dX12_statement_80 : decode cX12_statement 80 = .ok (.aload_n 0, 1) := by decide +kernel
theorem dX12_statement_81 : decode cX12_statement 81 = .ok (.ldc2_w 350, 3) := by decide +kernel
theorem dX12_statement_84 : decode cX12_statement 84 = .ok (.invokevirtual 386, 3) := by decide +kernel
theorem dX12_statement_87 : decode cX12_statement 87 = .ok (.ifCond .eq 10, 3) := by decide +kernel
theorem dX12_statement_90 : decode cX12_statement 90 = .ok (.aload_n 0, 1) := by decide +kernel
theorem dX12_statement_91 : decode cX12_statement 91 = .ok (.invokevirtual 440, 3) := by decide +kernel
theorem dX12_statement_94 : decode cX12_statement 94 = .ok (.goto 29, 3) := by decide +kernel
theorem dX12_statement_97 : decode cX12_statement 97 = .ok (.aload_n 0, 1) := by decide +kernel
theorem dX12_statement_98 : decode cX12_statement 98 = .ok (.ldc2_w 352, 3) := by decide +kernel
theorem dX12_statement_101 : decode cX12_statement 101 = .ok (.invokevirtual 386, 3) := by decide +kernel
theorem dX12_statement_104 : decode cX12_statement 104 = .ok (.ifCond .eq 10, 3) := by decide +kernel
theorem dX12_statement_107 : decode cX12_statement 107 = .ok (.aload_n 0, 1) := by decide +kernel
theorem dX12_statement_108 : decode cX12_statement 108 = .ok (.invokevirtual 443, 3) := by decide +kernel
theorem dX12_statement_111 : decode cX12_statement 111 = .ok (.goto 12, 3) := by decide +kernel
theorem dX12_statement_114 : decode cX12_statement 114 = .ok (.aload_n 0, 1) := by decide +kernel
theorem dX12_statement_115 : decode cX12_statement 115 = .ok (.iconst 1, 1) := by decide +kernel
theorem dX12_statement_116 : decode cX12_statement 116 = .ok (.aload_n 0, 1) := by decide +kernel
theorem dX12_statement_117 : decode cX12_statement 117 = .ok (.getfield 23, 3) := by decide +kernel
theorem dX12_statement_120 : decode cX12_statement 120 = .ok (.invokevirtual 320, 3) := by decide +kernel
theorem dX12_statement_123 : decode cX12_statement 123 = .ok (.return_, 1) := by decide +kernel
theorem dX12_finishes_0 : decode cX12_finishes 0 = .ok (.aload_n 0, 1) := by decide +kernel
theorem dX12_finishes_1 : decode cX12_finishes 1 = .ok (.invokevirtual 331, 3) := by decide +kernel
theorem dX12_finishes_4 : decode cX12_finishes 4 = .ok (.aload_n 0, 1) := by decide +kernel
theorem dX12_finishes_5 : decode cX12_finishes 5 = .ok (.getfield 36, 3) := by decide +kernel
theorem dX12_finishes_8 : decode cX12_finishes 8 = .ok (.ifCond .le 4, 3) := by decide +kernel
theorem dX12_finishes_11 : decode cX12_finishes 11 = .ok (.return_, 1) := by decide +kernel
theorem dX12_finishes_12 : decode cX12_finishes 12 = .ok (.aload_n 0, 1) := by decide +kernel
theorem dX12_finishes_13 : decode cX12_finishes 13 = .ok (.getfield 26, 3) := by decide +kernel
theorem dX12_finishes_16 : decode cX12_finishes 16 = .ok (.istore_n 2, 1) := by decide +kernel
theorem dX12_finishes_17 : decode cX12_finishes 17 = .ok (.iload_n 2, 1) := by decide +kernel
theorem dX12_finishes_18 : decode cX12_finishes 18 = .ok (.aload_n 0, 1) := by decide +kernel
theorem dX12_finishes_19 : decode cX12_finishes 19 = .ok (.getfield 17, 3) := by decide +kernel
theorem dX12_finishes_22 : decode cX12_finishes 22 = .ok (.if_icmp .ge 31, 3) := by decide +kernel
theorem dX12_finishes_25 : decode cX12_finishes 25 = .ok (.aload_n 0, 1) := by decide +kernel
theorem dX12_finishes_26 : decode cX12_finishes 26 = .ok (.getfield 7, 3) := by decide +kernel
theorem dX12_finishes_29 : decode cX12_finishes 29 = .ok (.iload_n 2, 1) := by decide +kernel
theorem dX12_finishes_30 : decode cX12_finishes 30 = .ok (.iaload, 1) := by decide +kernel
theorem dX12_finishes_31 : decode cX12_finishes 31 = .ok (.bipush 32, 2) := by decide +kernel
theorem dX12_finishes_33 : decode cX12_finishes 33 = .ok (.if_icmp .eq 14, 3) := by decide +kernel
theorem dX12_finishes_36 : decode cX12_finishes 36 = .ok (.aload_n 0, 1) := by decide +kernel
theorem dX12_finishes_37 : decode cX12_finishes 37 = .ok (.getfield 7, 3) := by decide +kernel
theorem dX12_finishes_40 : decode cX12_finishes 40 = .ok (.iload_n 2, 1) := by decide +kernel
theorem dX12_finishes_41 : decode cX12_finishes 41 = .ok (.iaload, 1) := by decide +kernel
theorem dX12_finishes_42 : decode cX12_finishes 42 = .ok (.bipush 10, 2) := by decide +kernel
theorem dX12_finishes_44 : decode cX12_finishes 44 = .ok (.if_icmp .ne 9, 3) := by decide +kernel
theorem dX12_finishes_47 : decode cX12_finishes 47 = .ok (.iinc 2 1, 3) := by decide +kernel
theorem dX12_finishes_50 : decode cX12_finishes 50 = .ok (.goto (-33), 3) := by decide +kernel
theorem dX12_finishes_53 : decode cX12_finishes 53 = .ok (.aload_n 0, 1) := by decide +kernel
theorem dX12_finishes_54 : decode cX12_finishes 54 = .ok (.bipush 59, 2) := by decide +kernel
theorem dX12_finishes_56 : decode cX12_finishes 56 = .ok (.invokevirtual 334, 3) := by decide +kernel
theorem dX12_finishes_59 : decode cX12_finishes 59 = .ok (.ifCond .eq 24, 3) := by decide +kernel
theorem dX12_finishes_62 : decode cX12_finishes 62 = .ok (.iload_n 1, 1) := by decide +kernel
theorem dX12_finishes_63 : decode cX12_finishes 63 = .ok (.bipush 60, 2) := by decide +kernel
theorem dX12_finishes_65 : decode cX12_finishes 65 = .ok (.if_icmp .ne 18, 3) := by decide +kernel
theorem dX12_finishes_68 : decode cX12_finishes 68 = .ok (.iload_n 2, 1) := by decide +kernel
theorem dX12_finishes_69 : decode cX12_finishes 69 = .ok (.aload_n 0, 1) := by decide +kernel
theorem dX12_finishes_70 : decode cX12_finishes 70 = .ok (.getfield 17, 3) := by decide +kernel
theorem dX12_finishes_73 : decode cX12_finishes 73 = .ok (.if_icmp .ge 10, 3) := by decide +kernel
theorem dX12_finishes_76 : decode cX12_finishes 76 = .ok (.aload_n 0, 1) := by decide +kernel
theorem dX12_finishes_77 : decode cX12_finishes 77 = .ok (.bipush 6, 2) := by decide +kernel
theorem dX12_finishes_79 : decode cX12_finishes 79 = .ok (.iload_n 2, 1) := by decide +kernel
theorem dX12_finishes_80 : decode cX12_finishes 80 = .ok (.invokevirtual 320, 3) := by decide +kernel
theorem dX12_finishes_83 : decode cX12_finishes 83 = .ok (.aload_n 0, 1) := by decide +kernel
theorem dX12_finishes_84 : decode cX12_finishes 84 = .ok (.bipush 59, 2) := by decide +kernel
theorem dX12_finishes_86 : decode cX12_finishes 86 = .ok (.invokevirtual 413, 3) := by decide +kernel
theorem dX12_finishes_89 : decode cX12_finishes 89 = .ok (.return_, 1) := by decide +kernel
theorem dX12_match_0 : decode cX12_match 0 = .ok (.aload_n 0, 1) := by decide +kernel
theorem dX12_match_1 : decode cX12_match 1 = .ok (.aload_n 0, 1) := by decide +kernel
theorem dX12_match_2 : decode cX12_match 2 = .ok (.getfield 13, 3) := by decide +kernel
theorem dX12_match_5 : decode cX12_match 5 = .ok (.putfield 17, 3) := by decide +kernel
theorem dX12_match_8 : decode cX12_match 8 = .ok (.aload_n 0, 1) := by decide +kernel
theorem dX12_match_9 : decode cX12_match 9 = .ok (.iconst 0, 1) := by decide +kernel
theorem dX12_match_10 : decode cX12_match 10 = .ok (.putfield 13, 3) := by decide +kernel
theorem dX12_match_13 : decode cX12_match 13 = .ok (.aload_n 0, 1) := by decide +kernel
theorem dX12_match_14 : decode cX12_match 14 = .ok (.iconst 0, 1) := by decide +kernel
theorem dX12_match_15 : decode cX12_match 15 = .ok (.putfield 26, 3) := by decide +kernel
theorem dX12_match_18 : decode cX12_match 18 = .ok (.aload_n 0, 1) := by decide +kernel
theorem dX12_match_19 : decode cX12_match 19 = .ok (.iconst 0, 1) := by decide +kernel
theorem dX12_match_20 : decode cX12_match 20 = .ok (.putfield 36, 3) := by decide +kernel
theorem dX12_match_23 : decode cX12_match 23 = .ok (.aload_n 0, 1) := by decide +kernel
theorem dX12_match_24 : decode cX12_match 24 = .ok (.iconst (-1), 1) := by decide +kernel
theorem dX12_match_25 : decode cX12_match 25 = .ok (.putfield 39, 3) := by decide +kernel
theorem dX12_match_28 : decode cX12_match 28 = .ok (.aload_n 0, 1) := by decide +kernel
theorem dX12_match_29 : decode cX12_match 29 = .ok (.iconst 1, 1) := by decide +kernel
theorem dX12_match_30 : decode cX12_match 30 = .ok (.aload_n 0, 1) := by decide +kernel
theorem dX12_match_31 : decode cX12_match 31 = .ok (.getfield 51, 3) := by decide +kernel
theorem dX12_match_34 : decode cX12_match 34 = .ok (.isub, 1) := by decide +kernel
theorem dX12_match_35 : decode cX12_match 35 = .ok (.putfield 124, 3) := by decide +kernel
theorem dX12_match_38 : decode cX12_match 38 = .ok (.aload_n 0, 1) := by decide +kernel
theorem dX12_match_39 : decode cX12_match 39 = .ok (.getfield 54, 3) := by decide +kernel
theorem dX12_match_42 : decode cX12_match 42 = .ok (.aload_n 0, 1) := by decide +kernel
theorem dX12_match_43 : decode cX12_match 43 = .ok (.getfield 124, 3) := by decide +kernel
theorem dX12_match_46 : decode cX12_match 46 = .ok (.iconst 0, 1) := by decide +kernel
theorem dX12_match_47 : decode cX12_match 47 = .ok (.iastore, 1) := by decide +kernel
theorem dX12_match_48 : decode cX12_match 48 = .ok (.aload_n 0, 1) := by decide +kernel
theorem dX12_match_49 : decode cX12_match 49 = .ok (.getfield 63, 3) := by decide +kernel
theorem dX12_match_52 : decode cX12_match 52 = .ok (.aload_n 0, 1) := by decide +kernel
theorem dX12_match_53 : decode cX12_match 53 = .ok (.getfield 124, 3) := by decide +kernel
theorem dX12_match_56 : decode cX12_match 56 = .ok (.iconst 0, 1) := by decide +kernel
theorem dX12_match_57 : decode cX12_match 57 = .ok (.iastore, 1) := by decide +kernel
theorem dX12_match_58 : decode cX12_match 58 = .ok (.aload_n 0, 1) := by decide +kernel
theorem dX12_match_59 : decode cX12_match 59 = .ok (.getfield 81, 3) := by decide +kernel
theorem dX12_match_62 : decode cX12_match 62 = .ok (.aload_n 0, 1) := by decide +kernel
theorem dX12_match_63 : decode cX12_match 63 = .ok (.getfield 124, 3) := by decide +kernel
theorem dX12_match_66 : decode cX12_match 66 = .ok (.iconst 0, 1) := by decide +kernel
theorem dX12_match_67 : decode cX12_match 67 = .ok (.iastore, 1) := by decide +kernel
theorem dX12_match_68 : decode cX12_match 68 = .ok (.aload_n 0, 1) := by decide +kernel
theorem dX12_match_69 : decode cX12_match 69 = .ok (.getfield 87, 3) := by decide +kernel
theorem dX12_match_72 : decode cX12_match 72 = .ok (.aload_n 0, 1) := by decide +kernel
theorem dX12_match_73 : decode cX12_match 73 = .ok (.getfield 124, 3) := by decide +kernel
theorem dX12_match_76 : decode cX12_match 76 = .ok (.iconst 0, 1) := by decide +kernel
theorem dX12_match_77 : decode cX12_match 77 = .ok (.iastore, 1) := by decide +kernel
theorem dX12_match_78 : decode cX12_match 78 = .ok (.aload_n 0, 1) := by decide +kernel
theorem dX12_match_79 : decode cX12_match 79 = .ok (.getfield 93, 3) := by decide +kernel
theorem dX12_match_82 : decode cX12_match 82 = .ok (.aload_n 0, 1) := by decide +kernel
theorem dX12_match_83 : decode cX12_match 83 = .ok (.getfield 124, 3) := by decide +kernel
theorem dX12_match_86 : decode cX12_match 86 = .ok (.iconst 0, 1) := by decide +kernel
theorem dX12_match_87 : decode cX12_match 87 = .ok (.iastore, 1) := by decide +kernel
theorem dX12_match_88 : decode cX12_match 88 = .ok (.aload_n 0, 1) := by decide +kernel
theorem dX12_match_89 : decode cX12_match 89 = .ok (.getfield 96, 3) := by decide +kernel
theorem dX12_match_92 : decode cX12_match 92 = .ok (.aload_n 0, 1) := by decide +kernel
theorem dX12_match_93 : decode cX12_match 93 = .ok (.getfield 124, 3) := by decide +kernel
theorem dX12_match_96 : decode cX12_match 96 = .ok (.sipush 300, 3) := by decide +kernel
theorem dX12_match_99 : decode cX12_match 99 = .ok (.iastore, 1) := by decide +kernel
theorem dX12_match_100 : decode cX12_match 100 = .ok (.aload_n 0, 1) := by decide +kernel
theorem dX12_match_101 : decode cX12_match 101 = .ok (.iconst 0, 1) := by decide +kernel
theorem dX12_match_102 : decode cX12_match 102 = .ok (.putfield 127, 3) := by decide +kernel
theorem dX12_match_105 : decode cX12_match 105 = .ok (.aload_n 0, 1) := by decide +kernel
theorem dX12_match_106 : decode cX12_match 106 = .ok (.iconst 0, 1) := by decide +kernel
theorem dX12_match_107 : decode cX12_match 107 = .ok (.putfield 121, 3) := by decide +kernel
theorem dX12_match_110 : decode cX12_match 110 = .ok (.iconst 0, 1) := by decide +kernel
theorem dX12_match_111 : decode cX12_match 111 = .ok (.istore_n 1, 1) := by decide +kernel
theorem dX12_match_112 : decode cX12_match 112 = .ok (.aload_n 0, 1) := by decide +kernel
theorem dX12_match_113 : decode cX12_match 113 = .ok (.invokevirtual 337, 3) := by decide +kernel
theorem dX12_match_116 : decode cX12_match 116 = .ok (.aload_n 0, 1) := by decide +kernel
theorem dX12_match_117 : decode cX12_match 117 = .ok (.getfield 36, 3) := by decide +kernel
theorem dX12_match_120 : decode cX12_match 120 = .ok (.ifCond .ne 25, 3) := by decide +kernel
theorem dX12_match_123 : decode cX12_match 123 = .ok (.aload_n 0, 1) := by decide +kernel
theorem dX12_match_124 : decode cX12_match 124 = .ok (.getfield 20, 3) := by decide +kernel
theorem dX12_match_127 : decode cX12_match 127 = .ok (.ifCond .eq 18, 3) := by decide +kernel
theorem dX12_match_130 : decode cX12_match 130 = .ok (.aload_n 0, 1) := by decide +kernel
theorem dX12_match_131 : decode cX12_match 131 = .ok (.invokevirtual 446, 3) := by decide +kernel
theorem dX12_match_134 : decode cX12_match 134 = .ok (.iinc 1 1, 3) := by decide +kernel
theorem dX12_match_137 : decode cX12_match 137 = .ok (.aload_n 0, 1) := by decide +kernel
theorem dX12_match_138 : decode cX12_match 138 = .ok (.iload_n 1, 1) := by decide +kernel
theorem dX12_match_139 : decode cX12_match 139 = .ok (.invokevirtual 449, 3) := by decide +kernel
theorem dX12_match_142 : decode cX12_match 142 = .ok (.goto (-26), 3) := by decide +kernel
theorem dX12_match_145 : decode cX12_match 145 = .ok (.aload_n 0, 1) := by decide +kernel
theorem dX12_match_146 : decode cX12_match 146 = .ok (.getfield 36, 3) := by decide +kernel
theorem dX12_match_149 : decode cX12_match 149 = .ok (.ifCond .ne 19, 3) := by decide +kernel
theorem dX12_match_152 : decode cX12_match 152 = .ok (.aload_n 0, 1) := by decide +kernel
theorem dX12_match_153 : decode cX12_match 153 = .ok (.getfield 127, 3) := by decide +kernel
theorem dX12_match_156 : decode cX12_match 156 = .ok (.ifCond .ne 12, 3) := by decide +kernel
theorem dX12_match_159 : decode cX12_match 159 = .ok (.aload_n 0, 1) := by decide +kernel
theorem dX12_match_160 : decode cX12_match 160 = .ok (.iconst 1, 1) := by decide +kernel
theorem dX12_match_161 : decode cX12_match 161 = .ok (.aload_n 0, 1) := by decide +kernel
theorem dX12_match_162 : decode cX12_match 162 = .ok (.getfield 17, 3) := by decide +kernel
theorem dX12_match_165 : decode cX12_match 165 = .ok (.invokevirtual 320, 3) := by decide +kernel
theorem dX12_match_168 : decode cX12_match 168 = .ok (.aload_n 0, 1) := by decide +kernel
theorem dX12_match_169 : decode cX12_match 169 = .ok (.aload_n 0, 1) := by decide +kernel
theorem dX12_match_170 : decode cX12_match 170 = .ok (.getfield 36, 3) := by decide +kernel
theorem dX12_match_173 : decode cX12_match 173 = .ok (.putfield 42, 3) := by decide +kernel
theorem dX12_match_176 : decode cX12_match 176 = .ok (.aload_n 0, 1) := by decide +kernel
theorem dX12_match_177 : decode cX12_match 177 = .ok (.aload_n 0, 1) := by decide +kernel
theorem dX12_match_178 : decode cX12_match 178 = .ok (.getfield 39, 3) := by decide +kernel
theorem dX12_match_181 : decode cX12_match 181 = .ok (.putfield 45, 3) := by decide +kernel
theorem dX12_match_184 : decode cX12_match 184 = .ok (.aload_n 0, 1) := by decide +kernel
theorem dX12_match_185 : decode cX12_match 185 = .ok (.getfield 36, 3) := by decide +kernel
theorem dX12_match_188 : decode cX12_match 188 = .ok (.ifCond .le 9, 3) := by decide +kernel
theorem dX12_match_191 : decode cX12_match 191 = .ok (.aload_n 0, 1) := by decide +kernel
theorem dX12_match_192 : decode cX12_match 192 = .ok (.iconst 1, 1) := by decide +kernel
theorem dX12_match_193 : decode cX12_match 193 = .ok (.invokevirtual 312, 3) := by decide +kernel
theorem dX12_match_196 : decode cX12_match 196 = .ok (.ireturn, 1) := by decide +kernel
theorem dX12_match_197 : decode cX12_match 197 = .ok (.aload_n 0, 1) := by decide +kernel
theorem dX12_match_198 : decode cX12_match 198 = .ok (.aload_n 0, 1) := by decide +kernel
theorem dX12_match_199 : decode cX12_match 199 = .ok (.getfield 124, 3) := by decide +kernel
theorem dX12_match_202 : decode cX12_match 202 = .ok (.putfield 51, 3) := by decide +kernel
theorem dX12_match_205 : decode cX12_match 205 = .ok (.aload_n 0, 1) := by decide +kernel
theorem dX12_match_206 : decode cX12_match 206 = .ok (.iconst 1, 1) := by decide +kernel
theorem dX12_match_207 : decode cX12_match 207 = .ok (.putfield 146, 3) := by decide +kernel
theorem dX12_match_210 : decode cX12_match 210 = .ok (.aload_n 0, 1) := by decide +kernel
theorem dX12_match_211 : decode cX12_match 211 = .ok (.invokevirtual 452, 3) := by decide +kernel
theorem dX12_match_214 : decode cX12_match 214 = .ok (.aload_n 0, 1) := by decide +kernel
theorem dX12_match_215 : decode cX12_match 215 = .ok (.invokevirtual 309, 3) := by decide +kernel
theorem dX12_match_218 : decode cX12_match 218 = .ok (.iload_n 1, 1) := by decide +kernel
theorem dX12_match_219 : decode cX12_match 219 = .ok (.ireturn, 1) := by decide +kernel
theorem dX12_fault_0 : decode cX12_fault 0 = .ok (.iload_n 1, 1) := by decide +kernel
theorem dX12_fault_1 : decode cX12_fault 1 = .ok (.ifCond .ne 10, 3) := by decide +kernel
theorem dX12_fault_4 : decode cX12_fault 4 = .ok (.aload_n 0, 1) := by decide +kernel
theorem dX12_fault_5 : decode cX12_fault 5 = .ok (.getfield 42, 3) := by decide +kernel
theorem dX12_fault_8 : decode cX12_fault 8 = .ok (.goto 16, 3) := by decide +kernel
theorem dX12_fault_11 : decode cX12_fault 11 = .ok (.iload_n 1, 1) := by decide +kernel
theorem dX12_fault_12 : decode cX12_fault 12 = .ok (.iconst 1, 1) := by decide +kernel
theorem dX12_fault_13 : decode cX12_fault 13 = .ok (.if_icmp .ne 10, 3) := by decide +kernel
theorem dX12_fault_16 : decode cX12_fault 16 = .ok (.aload_n 0, 1) := by decide +kernel
theorem dX12_fault_17 : decode cX12_fault 17 = .ok (.getfield 45, 3) := by decide +kernel
theorem dX12_fault_20 : decode cX12_fault 20 = .ok (.goto 4, 3) := by decide +kernel
theorem dX12_fault_23 : decode cX12_fault 23 = .ok (.iconst (-1), 1) := by decide +kernel
theorem dX12_fault_24 : decode cX12_fault 24 = .ok (.ireturn, 1) := by decide +kernel
theorem dX12_refuses_0 : decode cX12_refuses 0 = .ok (.aload_n 0, 1) := by decide +kernel
theorem dX12_refuses_1 : decode cX12_refuses 1 = .ok (.getfield 149, 3) := by decide +kernel
theorem dX12_refuses_4 : decode cX12_refuses 4 = .ok (.iload_n 1, 1) := by decide +kernel
theorem dX12_refuses_5 : decode cX12_refuses 5 = .ok (.dup2, 1) := by decide +kernel
theorem dX12_refuses_6 : decode cX12_refuses 6 = .ok (.iaload, 1) := by decide +kernel
theorem dX12_refuses_7 : decode cX12_refuses 7 = .ok (.iconst 1, 1) := by decide +kernel
theorem dX12_refuses_8 : decode cX12_refuses 8 = .ok (.iadd, 1) := by decide +kernel
theorem dX12_refuses_9 : decode cX12_refuses 9 = .ok (.iastore, 1) := by decide +kernel
theorem dX12_refuses_10 : decode cX12_refuses 10 = .ok (.iconst (-1), 1) := by decide +kernel
theorem dX12_refuses_11 : decode cX12_refuses 11 = .ok (.ireturn, 1) := by decide +kernel
theorem dX12_status_0 : decode cX12_status 0 = .ok (.iload_n 1, 1) := by decide +kernel
