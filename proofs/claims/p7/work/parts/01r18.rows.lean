section
theorem dX12_goesOn_174 : decode cX12_goesOn 174 = .ok (.ifCond .ne 7, 3) := by decide +kernel
theorem dX12_goesOn_177 : decode cX12_goesOn 177 = .ok (.iconst 1, 1) := by decide +kernel
theorem dX12_goesOn_178 : decode cX12_goesOn 178 = .ok (.goto 4, 3) := by decide +kernel
theorem dX12_goesOn_181 : decode cX12_goesOn 181 = .ok (.iconst 0, 1) := by decide +kernel
theorem dX12_goesOn_182 : decode cX12_goesOn 182 = .ok (.ireturn, 1) := by decide +kernel
theorem dX12_goesOn_183 : decode cX12_goesOn 183 = .ok (.aload_n 0, 1) := by decide +kernel
theorem dX12_goesOn_184 : decode cX12_goesOn 184 = .ok (.bipush 41, 2) := by decide +kernel
theorem dX12_goesOn_186 : decode cX12_goesOn 186 = .ok (.invokevirtual 413, 3) := by decide +kernel
theorem dX12_goesOn_189 : decode cX12_goesOn 189 = .ok (.goto (-189), 3) := by decide +kernel
theorem dX12_goesOn_192 : decode cX12_goesOn 192 = .ok (.iconst 0, 1) := by decide +kernel
theorem dX12_goesOn_193 : decode cX12_goesOn 193 = .ok (.ireturn, 1) := by decide +kernel
theorem dX12_pattern_0 : decode cX12_pattern 0 = .ok (.aload_n 0, 1) := by decide +kernel
theorem dX12_pattern_1 : decode cX12_pattern 1 = .ok (.iconst 0, 1) := by decide +kernel
theorem dX12_pattern_2 : decode cX12_pattern 2 = .ok (.putfield 143, 3) := by decide +kernel
theorem dX12_pattern_5 : decode cX12_pattern 5 = .ok (.aload_n 0, 1) := by decide +kernel
theorem dX12_pattern_6 : decode cX12_pattern 6 = .ok (.iload_n 1, 1) := by decide +kernel
theorem dX12_pattern_7 : decode cX12_pattern 7 = .ok (.invokevirtual 404, 3) := by decide +kernel
theorem dX12_pattern_10 : decode cX12_pattern 10 = .ok (.iconst 1, 1) := by decide +kernel
theorem dX12_pattern_11 : decode cX12_pattern 11 = .ok (.istore_n 2, 1) := by decide +kernel
theorem dX12_pattern_12 : decode cX12_pattern 12 = .ok (.iload_n 2, 1) := by decide +kernel
theorem dX12_pattern_13 : decode cX12_pattern 13 = .ok (.ifCond .eq 26, 3) := by decide +kernel
theorem dX12_pattern_16 : decode cX12_pattern 16 = .ok (.aload_n 0, 1) := by decide +kernel
theorem dX12_pattern_17 : decode cX12_pattern 17 = .ok (.getfield 36, 3) := by decide +kernel
theorem dX12_pattern_20 : decode cX12_pattern 20 = .ok (.ifCond .ne 19, 3) := by decide +kernel
theorem dX12_pattern_23 : decode cX12_pattern 23 = .ok (.aload_n 0, 1) := by decide +kernel
theorem dX12_pattern_24 : decode cX12_pattern 24 = .ok (.invokevirtual 419, 3) := by decide +kernel
theorem dX12_pattern_27 : decode cX12_pattern 27 = .ok (.ifCond .eq (-15), 3) := by decide +kernel
theorem dX12_pattern_30 : decode cX12_pattern 30 = .ok (.aload_n 0, 1) := by decide +kernel
theorem dX12_pattern_31 : decode cX12_pattern 31 = .ok (.iconst 0, 1) := by decide +kernel
theorem dX12_pattern_32 : decode cX12_pattern 32 = .ok (.invokevirtual 422, 3) := by decide +kernel
theorem dX12_pattern_35 : decode cX12_pattern 35 = .ok (.istore_n 2, 1) := by decide +kernel
theorem dX12_pattern_36 : decode cX12_pattern 36 = .ok (.goto (-24), 3) := by decide +kernel
theorem dX12_pattern_39 : decode cX12_pattern 39 = .ok (.return_, 1) := by decide +kernel
theorem dX12_armIs_0 : decode cX12_armIs 0 = .ok (.aload_n 0, 1) := by decide +kernel
theorem dX12_armIs_1 : decode cX12_armIs 1 = .ok (.getfield 127, 3) := by decide +kernel
theorem dX12_armIs_4 : decode cX12_armIs 4 = .ok (.ifCond .ne 12, 3) := by decide +kernel
theorem dX12_armIs_7 : decode cX12_armIs 7 = .ok (.aload_n 0, 1) := by decide +kernel
theorem dX12_armIs_8 : decode cX12_armIs 8 = .ok (.iconst 1, 1) := by decide +kernel
theorem dX12_armIs_9 : decode cX12_armIs 9 = .ok (.aload_n 0, 1) := by decide +kernel
theorem dX12_armIs_10 : decode cX12_armIs 10 = .ok (.getfield 23, 3) := by decide +kernel
theorem dX12_armIs_13 : decode cX12_armIs 13 = .ok (.invokevirtual 320, 3) := by decide +kernel
theorem dX12_armIs_16 : decode cX12_armIs 16 = .ok (.aload_n 0, 1) := by decide +kernel
theorem dX12_armIs_17 : decode cX12_armIs 17 = .ok (.aload_n 0, 1) := by decide +kernel
theorem dX12_armIs_18 : decode cX12_armIs 18 = .ok (.getfield 87, 3) := by decide +kernel
theorem dX12_armIs_21 : decode cX12_armIs 21 = .ok (.aload_n 0, 1) := by decide +kernel
theorem dX12_armIs_22 : decode cX12_armIs 22 = .ok (.getfield 124, 3) := by decide +kernel
theorem dX12_armIs_25 : decode cX12_armIs 25 = .ok (.iaload, 1) := by decide +kernel
theorem dX12_armIs_26 : decode cX12_armIs 26 = .ok (.bipush 12, 2) := by decide +kernel
theorem dX12_armIs_28 : decode cX12_armIs 28 = .ok (.if_icmp .ne 7, 3) := by decide +kernel
theorem dX12_armIs_31 : decode cX12_armIs 31 = .ok (.iconst 1, 1) := by decide +kernel
theorem dX12_armIs_32 : decode cX12_armIs 32 = .ok (.goto 4, 3) := by decide +kernel
theorem dX12_armIs_35 : decode cX12_armIs 35 = .ok (.iconst 0, 1) := by decide +kernel
theorem dX12_armIs_36 : decode cX12_armIs 36 = .ok (.invokevirtual 378, 3) := by decide +kernel
theorem dX12_armIs_39 : decode cX12_armIs 39 = .ok (.ifCond .ne 4, 3) := by decide +kernel
theorem dX12_armIs_42 : decode cX12_armIs 42 = .ok (.return_, 1) := by decide +kernel
theorem dX12_armIs_43 : decode cX12_armIs 43 = .ok (.bipush 12, 2) := by decide +kernel
theorem dX12_armIs_45 : decode cX12_armIs 45 = .ok (.aload_n 0, 1) := by decide +kernel
theorem dX12_armIs_46 : decode cX12_armIs 46 = .ok (.getfield 124, 3) := by decide +kernel
theorem dX12_armIs_49 : decode cX12_armIs 49 = .ok (.imul, 1) := by decide +kernel
theorem dX12_armIs_50 : decode cX12_armIs 50 = .ok (.aload_n 0, 1) := by decide +kernel
theorem dX12_armIs_51 : decode cX12_armIs 51 = .ok (.getfield 87, 3) := by decide +kernel
theorem dX12_armIs_54 : decode cX12_armIs 54 = .ok (.aload_n 0, 1) := by decide +kernel
theorem dX12_armIs_55 : decode cX12_armIs 55 = .ok (.getfield 124, 3) := by decide +kernel
theorem dX12_armIs_58 : decode cX12_armIs 58 = .ok (.iaload, 1) := by decide +kernel
theorem dX12_armIs_59 : decode cX12_armIs 59 = .ok (.iadd, 1) := by decide +kernel
theorem dX12_armIs_60 : decode cX12_armIs 60 = .ok (.istore_n 1, 1) := by decide +kernel
theorem dX12_armIs_61 : decode cX12_armIs 61 = .ok (.iconst 0, 1) := by decide +kernel
theorem dX12_armIs_62 : decode cX12_armIs 62 = .ok (.istore_n 2, 1) := by decide +kernel
theorem dX12_armIs_63 : decode cX12_armIs 63 = .ok (.iload_n 2, 1) := by decide +kernel
theorem dX12_armIs_64 : decode cX12_armIs 64 = .ok (.aload_n 0, 1) := by decide +kernel
theorem dX12_armIs_65 : decode cX12_armIs 65 = .ok (.getfield 81, 3) := by decide +kernel
theorem dX12_armIs_68 : decode cX12_armIs 68 = .ok (.aload_n 0, 1) := by decide +kernel
theorem dX12_armIs_69 : decode cX12_armIs 69 = .ok (.getfield 124, 3) := by decide +kernel
theorem dX12_armIs_72 : decode cX12_armIs 72 = .ok (.iaload, 1) := by decide +kernel
theorem dX12_armIs_73 : decode cX12_armIs 73 = .ok (.if_icmp .ge 78, 3) := by decide +kernel
theorem dX12_armIs_76 : decode cX12_armIs 76 = .ok (.aload_n 0, 1) := by decide +kernel
theorem dX12_armIs_77 : decode cX12_armIs 77 = .ok (.getfield 36, 3) := by decide +kernel
theorem dX12_armIs_80 : decode cX12_armIs 80 = .ok (.ifCond .ne 71, 3) := by decide +kernel
theorem dX12_armIs_83 : decode cX12_armIs 83 = .ok (.iload_n 2, 1) := by decide +kernel
theorem dX12_armIs_84 : decode cX12_armIs 84 = .ok (.ifCond .le 9, 3) := by decide +kernel
theorem dX12_armIs_87 : decode cX12_armIs 87 = .ok (.aload_n 0, 1) := by decide +kernel
theorem dX12_armIs_88 : decode cX12_armIs 88 = .ok (.bipush 44, 2) := by decide +kernel
theorem dX12_armIs_90 : decode cX12_armIs 90 = .ok (.invokevirtual 413, 3) := by decide +kernel
theorem dX12_armIs_93 : decode cX12_armIs 93 = .ok (.aload_n 0, 1) := by decide +kernel
theorem dX12_armIs_94 : decode cX12_armIs 94 = .ok (.getfield 99, 3) := by decide +kernel
theorem dX12_armIs_97 : decode cX12_armIs 97 = .ok (.iconst 4, 1) := by decide +kernel
theorem dX12_armIs_98 : decode cX12_armIs 98 = .ok (.iload_n 1, 1) := by decide +kernel
theorem dX12_armIs_99 : decode cX12_armIs 99 = .ok (.imul, 1) := by decide +kernel
theorem dX12_armIs_100 : decode cX12_armIs 100 = .ok (.iload_n 2, 1) := by decide +kernel
theorem dX12_armIs_101 : decode cX12_armIs 101 = .ok (.iadd, 1) := by decide +kernel
theorem dX12_armIs_102 : decode cX12_armIs 102 = .ok (.aload_n 0, 1) := by decide +kernel
theorem dX12_armIs_103 : decode cX12_armIs 103 = .ok (.getfield 121, 3) := by decide +kernel
theorem dX12_armIs_106 : decode cX12_armIs 106 = .ok (.iastore, 1) := by decide +kernel
theorem dX12_armIs_107 : decode cX12_armIs 107 = .ok (.aload_n 0, 1) := by decide +kernel
theorem dX12_armIs_108 : decode cX12_armIs 108 = .ok (.getfield 36, 3) := by decide +kernel
theorem dX12_armIs_111 : decode cX12_armIs 111 = .ok (.ifCond .ne 20, 3) := by decide +kernel
theorem dX12_armIs_114 : decode cX12_armIs 114 = .ok (.aload_n 0, 1) := by decide +kernel
theorem dX12_armIs_115 : decode cX12_armIs 115 = .ok (.aload_n 0, 1) := by decide +kernel
theorem dX12_armIs_116 : decode cX12_armIs 116 = .ok (.getfield 84, 3) := by decide +kernel
theorem dX12_armIs_119 : decode cX12_armIs 119 = .ok (.iconst 4, 1) := by decide +kernel
theorem dX12_armIs_120 : decode cX12_armIs 120 = .ok (.aload_n 0, 1) := by decide +kernel
theorem dX12_armIs_121 : decode cX12_armIs 121 = .ok (.getfield 124, 3) := by decide +kernel
theorem dX12_armIs_124 : decode cX12_armIs 124 = .ok (.imul, 1) := by decide +kernel
theorem dX12_armIs_125 : decode cX12_armIs 125 = .ok (.iload_n 2, 1) := by decide +kernel
theorem dX12_armIs_126 : decode cX12_armIs 126 = .ok (.iadd, 1) := by decide +kernel
theorem dX12_armIs_127 : decode cX12_armIs 127 = .ok (.iaload, 1) := by decide +kernel
theorem dX12_armIs_128 : decode cX12_armIs 128 = .ok (.invokevirtual 425, 3) := by decide +kernel
theorem dX12_armIs_131 : decode cX12_armIs 131 = .ok (.aload_n 0, 1) := by decide +kernel
theorem dX12_armIs_132 : decode cX12_armIs 132 = .ok (.getfield 102, 3) := by decide +kernel
theorem dX12_armIs_135 : decode cX12_armIs 135 = .ok (.iconst 4, 1) := by decide +kernel
theorem dX12_armIs_136 : decode cX12_armIs 136 = .ok (.iload_n 1, 1) := by decide +kernel
theorem dX12_armIs_137 : decode cX12_armIs 137 = .ok (.imul, 1) := by decide +kernel
theorem dX12_armIs_138 : decode cX12_armIs 138 = .ok (.iload_n 2, 1) := by decide +kernel
theorem dX12_armIs_139 : decode cX12_armIs 139 = .ok (.iadd, 1) := by decide +kernel
theorem dX12_armIs_140 : decode cX12_armIs 140 = .ok (.aload_n 0, 1) := by decide +kernel
theorem dX12_armIs_141 : decode cX12_armIs 141 = .ok (.getfield 121, 3) := by decide +kernel
theorem dX12_armIs_144 : decode cX12_armIs 144 = .ok (.iastore, 1) := by decide +kernel
theorem dX12_armIs_145 : decode cX12_armIs 145 = .ok (.iinc 2 1, 3) := by decide +kernel
theorem dX12_armIs_148 : decode cX12_armIs 148 = .ok (.goto (-85), 3) := by decide +kernel
theorem dX12_armIs_151 : decode cX12_armIs 151 = .ok (.aload_n 0, 1) := by decide +kernel
theorem dX12_armIs_152 : decode cX12_armIs 152 = .ok (.getfield 90, 3) := by decide +kernel
theorem dX12_armIs_155 : decode cX12_armIs 155 = .ok (.iload_n 1, 1) := by decide +kernel
theorem dX12_armIs_156 : decode cX12_armIs 156 = .ok (.iconst (-1), 1) := by decide +kernel
theorem dX12_armIs_157 : decode cX12_armIs 157 = .ok (.iastore, 1) := by decide +kernel
theorem dX12_armIs_158 : decode cX12_armIs 158 = .ok (.aload_n 0, 1) := by decide +kernel
theorem dX12_armIs_159 : decode cX12_armIs 159 = .ok (.invokevirtual 331, 3) := by decide +kernel
theorem dX12_armIs_162 : decode cX12_armIs 162 = .ok (.aload_n 0, 1) := by decide +kernel
theorem dX12_armIs_163 : decode cX12_armIs 163 = .ok (.getfield 36, 3) := by decide +kernel
theorem dX12_armIs_166 : decode cX12_armIs 166 = .ok (.ifCond .ne 30, 3) := by decide +kernel
theorem dX12_armIs_169 : decode cX12_armIs 169 = .ok (.aload_n 0, 1) := by decide +kernel
theorem dX12_armIs_170 : decode cX12_armIs 170 = .ok (.ldc2_w 348, 3) := by decide +kernel
theorem dX12_armIs_173 : decode cX12_armIs 173 = .ok (.invokevirtual 386, 3) := by decide +kernel
theorem dX12_armIs_176 : decode cX12_armIs 176 = .ok (.ifCond .eq 20, 3) := by decide +kernel
theorem dX12_armIs_179 : decode cX12_armIs 179 = .ok (.aload_n 0, 1) := by decide +kernel
theorem dX12_armIs_180 : decode cX12_armIs 180 = .ok (.invokevirtual 337, 3) := by decide +kernel
theorem dX12_armIs_183 : decode cX12_armIs 183 = .ok (.aload_n 0, 1) := by decide +kernel
theorem dX12_armIs_184 : decode cX12_armIs 184 = .ok (.getfield 90, 3) := by decide +kernel
theorem dX12_armIs_187 : decode cX12_armIs 187 = .ok (.iload_n 1, 1) := by decide +kernel
theorem dX12_armIs_188 : decode cX12_armIs 188 = .ok (.aload_n 0, 1) := by decide +kernel
theorem dX12_armIs_189 : decode cX12_armIs 189 = .ok (.iconst 0, 1) := by decide +kernel
theorem dX12_armIs_190 : decode cX12_armIs 190 = .ok (.bipush 7, 2) := by decide +kernel
theorem dX12_armIs_192 : decode cX12_armIs 192 = .ok (.invokevirtual 407, 3) := by decide +kernel
theorem dX12_armIs_195 : decode cX12_armIs 195 = .ok (.iastore, 1) := by decide +kernel
theorem dX12_armIs_196 : decode cX12_armIs 196 = .ok (.aload_n 0, 1) := by decide +kernel
theorem dX12_armIs_197 : decode cX12_armIs 197 = .ok (.getfield 36, 3) := by decide +kernel
theorem dX12_armIs_200 : decode cX12_armIs 200 = .ok (.ifCond .ne 16, 3) := by decide +kernel
theorem dX12_armIs_203 : decode cX12_armIs 203 = .ok (.aload_n 0, 1) := by decide +kernel
theorem dX12_armIs_204 : decode cX12_armIs 204 = .ok (.getfield 87, 3) := by decide +kernel
theorem dX12_armIs_207 : decode cX12_armIs 207 = .ok (.aload_n 0, 1) := by decide +kernel
theorem dX12_armIs_208 : decode cX12_armIs 208 = .ok (.getfield 124, 3) := by decide +kernel
theorem dX12_armIs_211 : decode cX12_armIs 211 = .ok (.dup2, 1) := by decide +kernel
theorem dX12_armIs_212 : decode cX12_armIs 212 = .ok (.iaload, 1) := by decide +kernel
theorem dX12_armIs_213 : decode cX12_armIs 213 = .ok (.iconst 1, 1) := by decide +kernel
theorem dX12_armIs_214 : decode cX12_armIs 214 = .ok (.iadd, 1) := by decide +kernel
theorem dX12_armIs_215 : decode cX12_armIs 215 = .ok (.iastore, 1) := by decide +kernel
theorem dX12_armIs_216 : decode cX12_armIs 216 = .ok (.return_, 1) := by decide +kernel
theorem dX12_ruleIs_0 : decode cX12_ruleIs 0 = .ok (.aload_n 0, 1) := by decide +kernel
theorem dX12_ruleIs_1 : decode cX12_ruleIs 1 = .ok (.iconst 0, 1) := by decide +kernel
theorem dX12_ruleIs_2 : decode cX12_ruleIs 2 = .ok (.invokevirtual 378, 3) := by decide +kernel
theorem dX12_ruleIs_5 : decode cX12_ruleIs 5 = .ok (.ifCond .ne 4, 3) := by decide +kernel
theorem dX12_ruleIs_8 : decode cX12_ruleIs 8 = .ok (.return_, 1) := by decide +kernel
theorem dX12_ruleIs_9 : decode cX12_ruleIs 9 = .ok (.aload_n 0, 1) := by decide +kernel
theorem dX12_ruleIs_10 : decode cX12_ruleIs 10 = .ok (.getfield 93, 3) := by decide +kernel
theorem dX12_ruleIs_13 : decode cX12_ruleIs 13 = .ok (.aload_n 0, 1) := by decide +kernel
theorem dX12_ruleIs_14 : decode cX12_ruleIs 14 = .ok (.getfield 124, 3) := by decide +kernel
theorem dX12_ruleIs_17 : decode cX12_ruleIs 17 = .ok (.aload_n 0, 1) := by decide +kernel
theorem dX12_ruleIs_18 : decode cX12_ruleIs 18 = .ok (.iconst 0, 1) := by decide +kernel
theorem dX12_ruleIs_19 : decode cX12_ruleIs 19 = .ok (.iconst 3, 1) := by decide +kernel
theorem dX12_ruleIs_20 : decode cX12_ruleIs 20 = .ok (.invokevirtual 407, 3) := by decide +kernel
theorem dX12_ruleIs_23 : decode cX12_ruleIs 23 = .ok (.iastore, 1) := by decide +kernel
theorem dX12_ruleIs_24 : decode cX12_ruleIs 24 = .ok (.return_, 1) := by decide +kernel
theorem dX12_budgetIs_0 : decode cX12_budgetIs 0 = .ok (.aload_n 0, 1) := by decide +kernel
theorem dX12_budgetIs_1 : decode cX12_budgetIs 1 = .ok (.iconst 0, 1) := by decide +kernel
theorem dX12_budgetIs_2 : decode cX12_budgetIs 2 = .ok (.invokevirtual 378, 3) := by decide +kernel
theorem dX12_budgetIs_5 : decode cX12_budgetIs 5 = .ok (.ifCond .ne 4, 3) := by decide +kernel
theorem dX12_budgetIs_8 : decode cX12_budgetIs 8 = .ok (.return_, 1) := by decide +kernel
theorem dX12_budgetIs_9 : decode cX12_budgetIs 9 = .ok (.aload_n 0, 1) := by decide +kernel
theorem dX12_budgetIs_10 : decode cX12_budgetIs 10 = .ok (.getfield 96, 3) := by decide +kernel
theorem dX12_budgetIs_13 : decode cX12_budgetIs 13 = .ok (.aload_n 0, 1) := by decide +kernel
theorem dX12_budgetIs_14 : decode cX12_budgetIs 14 = .ok (.getfield 124, 3) := by decide +kernel
theorem dX12_budgetIs_17 : decode cX12_budgetIs 17 = .ok (.aload_n 0, 1) := by decide +kernel
theorem dX12_budgetIs_18 : decode cX12_budgetIs 18 = .ok (.iconst 1, 1) := by decide +kernel
theorem dX12_budgetIs_19 : decode cX12_budgetIs 19 = .ok (.sipush 999, 3) := by decide +kernel
theorem dX12_budgetIs_22 : decode cX12_budgetIs 22 = .ok (.invokevirtual 407, 3) := by decide +kernel
theorem dX12_budgetIs_25 : decode cX12_budgetIs 25 = .ok (.iastore, 1) := by decide +kernel
theorem dX12_budgetIs_26 : decode cX12_budgetIs 26 = .ok (.return_, 1) := by decide +kernel
theorem dX12_statement_0 : decode cX12_statement 0 = .ok (.aload_n 0, 1) := by decide +kernel
theorem dX12_statement_1 : decode cX12_statement 1 = .ok (.invokevirtual 331, 3) := by decide +kernel
theorem dX12_statement_4 : decode cX12_statement 4 = .ok (.aload_n 0, 1) := by decide +kernel
theorem dX12_statement_5 : decode cX12_statement 5 = .ok (.getfield 36, 3) := by decide +kernel
theorem dX12_statement_8 : decode cX12_statement 8 = .ok (.ifCond .le 4, 3) := by decide +kernel
theorem dX12_statement_11 : decode cX12_statement 11 = .ok (.return_, 1) := by decide +kernel
theorem dX12_statement_12 : decode cX12_statement 12 = .ok (.aload_n 0, 1) := by decide +kernel
theorem dX12_statement_13 : decode cX12_statement 13 = .ok (.ldc2_w 340, 3) := by decide +kernel
theorem dX12_statement_16 : decode cX12_statement 16 = .ok (.invokevirtual 386, 3) := by decide +kernel
theorem dX12_statement_19 : decode cX12_statement 19 = .ok (.ifCond .eq 10, 3) := by decide +kernel
theorem dX12_statement_22 : decode cX12_statement 22 = .ok (.aload_n 0, 1) := by decide +kernel
theorem dX12_statement_23 : decode cX12_statement 23 = .ok (.invokevirtual 428, 3) := by decide +kernel
theorem dX12_statement_26 : decode cX12_statement 26 = .ok (.goto 97, 3) := by decide +kernel
theorem dX12_statement_29 : decode cX12_statement 29 = .ok (.aload_n 0, 1) := by decide +kernel
theorem dX12_statement_30 : decode cX12_statement 30 = .ok (.ldc2_w 342, 3) := by decide +kernel
theorem dX12_statement_33 : decode cX12_statement 33 = .ok (.invokevirtual 386, 3) := by decide +kernel
theorem dX12_statement_36 : decode cX12_statement 36 = .ok (.ifCond .eq 10, 3) := by decide +kernel
theorem dX12_statement_39 : decode cX12_statement 39 = .ok (.aload_n 0, 1) := by decide +kernel
theorem dX12_statement_40 : decode cX12_statement 40 = .ok (.invokevirtual 431, 3) := by decide +kernel
theorem dX12_statement_43 : decode cX12_statement 43 = .ok (.goto 80, 3) := by decide +kernel
theorem dX12_statement_46 : decode cX12_statement 46 = .ok (.aload_n 0, 1) := by decide +kernel
theorem dX12_statement_47 : decode cX12_statement 47 = .ok (.ldc2_w 344, 3) := by decide +kernel
theorem dX12_statement_50 : decode cX12_statement 50 = .ok (.invokevirtual 386, 3) := by decide +kernel
theorem dX12_statement_53 : decode cX12_statement 53 = .ok (.ifCond .eq 10, 3) := by decide +kernel
theorem dX12_statement_56 : decode cX12_statement 56 = .ok (.aload_n 0, 1) := by decide +kernel
theorem dX12_statement_57 : decode cX12_statement 57 = .ok (.invokevirtual 434, 3) := by decide +kernel
theorem dX12_statement_60 : decode cX12_statement 60 = .ok (.goto 63, 3) := by decide +kernel
theorem dX12_statement_63 : decode cX12_statement 63 = .ok (.aload_n 0, 1) := by decide +kernel
theorem dX12_statement_64 : decode cX12_statement 64 = .ok (.ldc2_w 346, 3) := by decide +kernel
theorem dX12_statement_67 : decode cX12_statement 67 = .ok (.invokevirtual 386, 3) := by decide +kernel
theorem dX12_statement_70 : decode cX12_statement 70 = .ok (.ifCond .eq 10, 3) := by decide +kernel
theorem dX12_statement_73 : decode cX12_statement 73 = .ok (.aload_n 0, 1) := by decide +kernel
theorem dX12_statement_74 : decode cX12_statement 74 = .ok (.invokevirtual 437, 3) := by decide +kernel
theorem dX12_statement_77 : decode cX12_statement 77 = .ok (.goto 46, 3) := by decide +kernel
theorem dX12_statement_80 : decode cX12_statement 80 = .ok (.aload_n 0, 1) := by decide +kernel
theorem dX12_statement_81 : decode cX12_statement 81 = .ok (.ldc2_w 350, 3) := by decide +kernel
theorem dX12_statement_84 : decode cX12_statement 84 = .ok (.invokevirtual 386, 3) := by decide +kernel
theorem dX12_statement_87 : decode cX12_statement 87 = .ok (.ifCond .eq 10, 3) := by decide +kernel
theorem dX12_statement_90 : decode cX12_statement 90 = .ok (.aload_n 0, 1) := by decide +kernel
theorem dX12_statement_91 : decode cX12_statement 91 = .ok (.invokevirtual 440, 3) := by decide +kernel
theorem dX12_statement_94 : decode cX12_statement 94 = .ok (.goto 29, 3) := by decide +kernel
theorem dX12_statement_97 : decode cX12_statement 97 = .ok (.aload_n 0, 1) := by decide +kernel
theorem dX12_statement_98 : decode cX12_statement 98 = .ok (.ldc2_w 352, 3) := by decide +kernel
theorem dX12_statement_101 : decode cX12_statement 101 = .ok (.invokevirtual 386, 3) := by decide +kernel
theorem dX12_statement_104 : decode cX12_statement 104 = .ok (.ifCond .eq 10, 3) := by decide +kernel
theorem dX12_statement_107 : decode cX12_statement 107 = .ok (.aload_n 0, 1) := by decide +kernel
theorem dX12_statement_108 : decode cX12_statement 108 = .ok (.invokevirtual 443, 3) := by decide +kernel
theorem dX12_statement_111 : decode cX12_statement 111 = .ok (.goto 12, 3) := by decide +kernel
theorem dX12_statement_114 : decode cX12_statement 114 = .ok (.aload_n 0, 1) := by decide +kernel
theorem dX12_statement_115 : decode cX12_statement 115 = .ok (.iconst 1, 1) := by decide +kernel
theorem dX12_statement_116 : decode cX12_statement 116 = .ok (.aload_n 0, 1) := by decide +kernel
theorem dX12_statement_117 : decode cX12_statement 117 = .ok (.getfield 23, 3) := by decide +kernel
theorem dX12_statement_120 : decode cX12_statement 120 = .ok (.invokevirtual 320, 3) := by decide +kernel
theorem dX12_statement_123 : decode cX12_statement 123 = .ok (.return_, 1) := by decide +kernel
theorem dX12_finishes_0 : decode cX12_finishes 0 = .ok (.aload_n 0, 1) := by decide +kernel
theorem dX12_finishes_1 : decode cX12_finishes 1 = .ok (.invokevirtual 331, 3) := by decide +kernel
theorem dX12_finishes_4 : decode cX12_finishes 4 = .ok (.aload_n 0, 1) := by decide +kernel
theorem dX12_finishes_5 : decode cX12_finishes 5 = .ok (.getfield 36, 3) := by decide +kernel
theorem dX12_finishes_8 : decode cX12_finishes 8 = .ok (.ifCond .le 4, 3) := by decide +kernel
theorem dX12_finishes_11 : decode cX12_finishes 11 = .ok (.return_, 1) := by decide +kernel
theorem dX12_finishes_12 : decode cX12_finishes 12 = .ok (.aload_n 0, 1) := by decide +kernel
theorem dX12_finishes_13 : decode cX12_finishes 13 = .ok (.getfield 26, 3) := by decide +kernel
theorem dX12_finishes_16 : decode cX12_finishes 16 = .ok (.istore_n 2, 1) := by decide +kernel
theorem dX12_finishes_17 : decode cX12_finishes 17 = .ok (.iload_n 2, 1) := by decide +kernel
theorem dX12_finishes_18 : decode cX12_finishes 18 = .ok (.aload_n 0, 1) := by decide +kernel
theorem dX12_finishes_19 : decode cX12_finishes 19 = .ok (.getfield 17, 3) := by decide +kernel
theorem dX12_finishes_22 : decode cX12_finishes 22 = .ok (.if_icmp .ge 31, 3) := by decide +kernel
theorem dX12_finishes_25 : decode cX12_finishes 25 = .ok (.aload_n 0, 1) := by decide +kernel
theorem dX12_finishes_26 : decode cX12_finishes 26 = .ok (.getfield 7, 3) := by decide +kernel
theorem dX12_finishes_29 : decode cX12_finishes 29 = .ok (.iload_n 2, 1) := by decide +kernel
theorem dX12_finishes_30 : decode cX12_finishes 30 = .ok (.iaload, 1) := by decide +kernel
theorem dX12_finishes_31 : decode cX12_finishes 31 = .ok (.bipush 32, 2) := by decide +kernel
theorem dX12_finishes_33 : decode cX12_finishes 33 = .ok (.if_icmp .eq 14, 3) := by decide +kernel
theorem dX12_finishes_36 : decode cX12_finishes 36 = .ok (.aload_n 0, 1) := by decide +kernel
theorem dX12_finishes_37 : decode cX12_finishes 37 = .ok (.getfield 7, 3) := by decide +kernel
theorem dX12_finishes_40 : decode cX12_finishes 40 = .ok (.iload_n 2, 1) := by decide +kernel
theorem dX12_finishes_41 : decode cX12_finishes 41 = .ok (.iaload, 1) := by decide +kernel
theorem dX12_finishes_42 : decode cX12_finishes 42 = .ok (.bipush 10, 2) := by decide +kernel
theorem dX12_finishes_44 : decode cX12_finishes 44 = .ok (.if_icmp .ne 9, 3) := by decide +kernel
theorem dX12_finishes_47 : decode cX12_finishes 47 = .ok (.iinc 2 1, 3) := by decide +kernel
theorem dX12_finishes_50 : decode cX12_finishes 50 = .ok (.goto (-33), 3) := by decide +kernel
theorem dX12_finishes_53 : decode cX12_finishes 53 = .ok (.aload_n 0, 1) := by decide +kernel
theorem dX12_finishes_54 : decode cX12_finishes 54 = .ok (.bipush 59, 2) := by decide +kernel
theorem dX12_finishes_56 : decode cX12_finishes 56 = .ok (.invokevirtual 334, 3) := by decide +kernel
theorem dX12_finishes_59 : decode cX12_finishes 59 = .ok (.ifCond .eq 24, 3) := by decide +kernel
theorem dX12_finishes_62 : decode cX12_finishes 62 = .ok (.iload_n 1, 1) := by decide +kernel
theorem dX12_finishes_63 : decode cX12_finishes 63 = .ok (.bipush 60, 2) := by decide +kernel
theorem dX12_finishes_65 : decode cX12_finishes 65 = .ok (.if_icmp .ne 18, 3) := by decide +kernel
theorem dX12_finishes_68 : decode cX12_finishes 68 = .ok (.iload_n 2, 1) := by decide +kernel
theorem dX12_finishes_69 : decode cX12_finishes 69 = .ok (.aload_n 0, 1) := by decide +kernel
theorem dX12_finishes_70 : decode cX12_finishes 70 = .ok (.getfield 17, 3) := by decide +kernel
theorem dX12_finishes_73 : decode cX12_finishes 73 = .ok (.if_icmp .ge 10, 3) := by decide +kernel
theorem dX12_finishes_76 : decode cX12_finishes 76 = .ok (.aload_n 0, 1) := by decide +kernel
theorem dX12_finishes_77 : decode cX12_finishes 77 = .ok (.bipush 6, 2) := by decide +kernel
theorem dX12_finishes_79 : decode cX12_finishes 79 = .ok (.iload_n 2, 1) := by decide +kernel
theorem dX12_finishes_80 : decode cX12_finishes 80 = .ok (.invokevirtual 320, 3) := by decide +kernel
theorem dX12_finishes_83 : decode cX12_finishes 83 = .ok (.aload_n 0, 1) := by decide +kernel
theorem dX12_finishes_84 : decode cX12_finishes 84 = .ok (.bipush 59, 2) := by decide +kernel
theorem dX12_finishes_86 : decode cX12_finishes 86 = .ok (.invokevirtual 413, 3) := by decide +kernel
theorem dX12_finishes_89 : decode cX12_finishes 89 = .ok (.return_, 1) := by decide +kernel
theorem dX12_match_0 : decode cX12_match 0 = .ok (.aload_n 0, 1) := by decide +kernel
theorem dX12_match_1 : decode cX12_match 1 = .ok (.aload_n 0, 1) := by decide +kernel
theorem dX12_match_2 : decode cX12_match 2 = .ok (.getfield 13, 3) := by decide +kernel
theorem dX12_match_5 : decode cX12_match 5 = .ok (.putfield 17, 3) := by decide +kernel
theorem dX12_match_8 : decode cX12_match 8 = .ok (.aload_n 0, 1) := by decide +kernel
theorem dX12_match_9 : decode cX12_match 9 = .ok (.iconst 0, 1) := by decide +kernel
theorem dX12_match_10 : decode cX12_match 10 = .ok (.putfield 13, 3) := by decide +kernel
theorem dX12_match_13 : decode cX12_match 13 = .ok (.aload_n 0, 1) := by decide +kernel
theorem dX12_match_14 : decode cX12_match 14 = .ok (.iconst 0, 1) := by decide +kernel
theorem dX12_match_15 : decode cX12_match 15 = .ok (.putfield 26, 3) := by decide +kernel
theorem dX12_match_18 : decode cX12_match 18 = .ok (.aload_n 0, 1) := by decide +kernel
theorem dX12_match_19 : decode cX12_match 19 = .ok (.iconst 0, 1) := by decide +kernel
theorem dX12_match_20 : decode cX12_match 20 = .ok (.putfield 36, 3) := by decide +kernel
theorem dX12_match_23 : decode cX12_match 23 = .ok (.aload_n 0, 1) := by decide +kernel
theorem dX12_match_24 : decode cX12_match 24 = .ok (.iconst (-1), 1) := by decide +kernel
theorem dX12_match_25 : decode cX12_match 25 = .ok (.putfield 39, 3) := by decide +kernel
theorem dX12_match_28 : decode cX12_match 28 = .ok (.aload_n 0, 1) := by decide +kernel
theorem dX12_match_29 : decode cX12_match 29 = .ok (.iconst 1, 1) := by decide +kernel
theorem dX12_match_30 : decode cX12_match 30 = .ok (.aload_n 0, 1) := by decide +kernel
theorem dX12_match_31 : decode cX12_match 31 = .ok (.getfield 51, 3) := by decide +kernel
theorem dX12_match_34 : decode cX12_match 34 = .ok (.isub, 1) := by decide +kernel
theorem dX12_match_35 : decode cX12_match 35 = .ok (.putfield 124, 3) := by decide +kernel
theorem dX12_match_38 : decode cX12_match 38 = .ok (.aload_n 0, 1) := by decide +kernel
theorem dX12_match_39 : decode cX12_match 39 = .ok (.getfield 54, 3) := by decide +kernel
theorem dX12_match_42 : decode cX12_match 42 = .ok (.aload_n 0, 1) := by decide +kernel
theorem dX12_match_43 : decode cX12_match 43 = .ok (.getfield 124, 3) := by decide +kernel
theorem dX12_match_46 : decode cX12_match 46 = .ok (.iconst 0, 1) := by decide +kernel
theorem dX12_match_47 : decode cX12_match 47 = .ok (.iastore, 1) := by decide +kernel
theorem dX12_match_48 : decode cX12_match 48 = .ok (.aload_n 0, 1) := by decide +kernel
theorem dX12_match_49 : decode cX12_match 49 = .ok (.getfield 63, 3) := by decide +kernel
theorem dX12_match_52 : decode cX12_match 52 = .ok (.aload_n 0, 1) := by decide +kernel
theorem dX12_match_53 : decode cX12_match 53 = .ok (.getfield 124, 3) := by decide +kernel
theorem dX12_match_56 : decode cX12_match 56 = .ok (.iconst 0, 1) := by decide +kernel
theorem dX12_match_57 : decode cX12_match 57 = .ok (.iastore, 1) := by decide +kernel
theorem dX12_match_58 : decode cX12_match 58 = .ok (.aload_n 0, 1) := by decide +kernel
theorem dX12_match_59 : decode cX12_match 59 = .ok (.getfield 81, 3) := by decide +kernel
theorem dX12_match_62 : decode cX12_match 62 = .ok (.aload_n 0, 1) := by decide +kernel
theorem dX12_match_63 : decode cX12_match 63 = .ok (.getfield 124, 3) := by decide +kernel
theorem dX12_match_66 : decode cX12_match 66 = .ok (.iconst 0, 1) := by decide +kernel
theorem dX12_match_67 : decode cX12_match 67 = .ok (.iastore, 1) := by decide +kernel
theorem dX12_match_68 : decode cX12_match 68 = .ok (.aload_n 0, 1) := by decide +kernel
theorem dX12_match_69 : decode cX12_match 69 = .ok (.getfield 87, 3) := by decide +kernel
theorem dX12_match_72 : decode cX12_match 72 = .ok (.aload_n 0, 1) := by decide +kernel
theorem dX12_match_73 : decode cX12_match 73 = .ok (.getfield 124, 3) := by decide +kernel
theorem dX12_match_76 : decode cX12_match 76 = .ok (.iconst 0, 1) := by decide +kernel
theorem dX12_match_77 : decode cX12_match 77 = .ok (.iastore, 1) := by decide +kernel
theorem dX12_match_78 : decode cX12_match 78 = .ok (.aload_n 0, 1) := by decide +kernel
theorem dX12_match_79 : decode cX12_match 79 = .ok (.getfield 93, 3) := by decide +kernel
theorem dX12_match_82 : decode cX12_match 82 = .ok (.aload_n 0, 1) := by decide +kernel
theorem dX12_match_83 : decode cX12_match 83 = .ok (.getfield 124, 3) := by decide +kernel
theorem dX12_match_86 : decode cX12_match 86 = .ok (.iconst 0, 1) := by decide +kernel
theorem dX12_match_87 : decode cX12_match 87 = .ok (.iastore, 1) := by decide +kernel
theorem dX12_match_88 : decode cX12_match 88 = .ok (.aload_n 0, 1) := by decide +kernel
theorem dX12_match_89 : decode cX12_match 89 = .ok (.getfield 96, 3) := by decide +kernel
theorem dX12_match_92 : decode cX12_match 92 = .ok (.aload_n 0, 1) := by decide +kernel
theorem dX12_match_93 : decode cX12_match 93 = .ok (.getfield 124, 3) := by decide +kernel
theorem dX12_match_96 : decode cX12_match 96 = .ok (.sipush 300, 3) := by decide +kernel
theorem dX12_match_99 : decode cX12_match 99 = .ok (.iastore, 1) := by decide +kernel
theorem dX12_match_100 : decode cX12_match 100 = .ok (.aload_n 0, 1) := by decide +kernel
theorem dX12_match_101 : decode cX12_match 101 = .ok (.iconst 0, 1) := by decide +kernel
theorem dX12_match_102 : decode cX12_match 102 = .ok (.putfield 127, 3) := by decide +kernel
theorem dX12_match_105 : decode cX12_match 105 = .ok (.aload_n 0, 1) := by decide +kernel
theorem dX12_match_106 : decode cX12_match 106 = .ok (.iconst 0, 1) := by decide +kernel
theorem dX12_match_107 : decode cX12_match 107 = .ok (.putfield 121, 3) := by decide +kernel
theorem dX12_match_110 : decode cX12_match 110 = .ok (.iconst 0, 1) := by decide +kernel
theorem dX12_match_111 : decode cX12_match 111 = .ok (.istore_n 1, 1) := by decide +kernel
theorem dX12_match_112 : decode cX12_match 112 = .ok (.aload_n 0, 1) := by decide +kernel
theorem dX12_match_113 : decode cX12_match 113 = .ok (.invokevirtual 337, 3) := by decide +kernel
theorem dX12_match_116 : decode cX12_match 116 = .ok (.aload_n 0, 1) := by decide +kernel
theorem dX12_match_117 : decode cX12_match 117 = .ok (.getfield 36, 3) := by decide +kernel
theorem dX12_match_120 : decode cX12_match 120 = .ok (.ifCond .ne 25, 3) := by decide +kernel
theorem dX12_match_123 : decode cX12_match 123 = .ok (.aload_n 0, 1) := by decide +kernel
theorem dX12_match_124 : decode cX12_match 124 = .ok (.getfield 20, 3) := by decide +kernel
theorem dX12_match_127 : decode cX12_match 127 = .ok (.ifCond .eq 18, 3) := by decide +kernel
theorem dX12_match_130 : decode cX12_match 130 = .ok (.aload_n 0, 1) := by decide +kernel
theorem dX12_match_131 : decode cX12_match 131 = .ok (.invokevirtual 446, 3) := by decide +kernel
theorem dX12_match_134 : decode cX12_match 134 = .ok (.iinc 1 1, 3) := by decide +kernel
theorem dX12_match_137 : decode cX12_match 137 = .ok (.aload_n 0, 1) := by decide +kernel
theorem dX12_match_138 : decode cX12_match 138 = .ok (.iload_n 1, 1) := by decide +kernel
theorem dX12_match_139 : decode cX12_match 139 = .ok (.invokevirtual 449, 3) := by decide +kernel
theorem dX12_match_142 : decode cX12_match 142 = .ok (.goto (-26), 3) := by decide +kernel
theorem dX12_match_145 : decode cX12_match 145 = .ok (.aload_n 0, 1) := by decide +kernel
theorem dX12_match_146 : decode cX12_match 146 = .ok (.getfield 36, 3) := by decide +kernel
theorem dX12_match_149 : decode cX12_match 149 = .ok (.ifCond .ne 19, 3) := by decide +kernel
theorem dX12_match_152 : decode cX12_match 152 = .ok (.aload_n 0, 1) := by decide +kernel
theorem dX12_match_153 : decode cX12_match 153 = .ok (.getfield 127, 3) := by decide +kernel
theorem dX12_match_156 : decode cX12_match 156 = .ok (.ifCond .ne 12, 3) := by decide +kernel
theorem dX12_match_159 : decode cX12_match 159 = .ok (.aload_n 0, 1) := by decide +kernel
theorem dX12_match_160 : decode cX12_match 160 = .ok (.iconst 1, 1) := by decide +kernel
theorem dX12_match_161 : decode cX12_match 161 = .ok (.aload_n 0, 1) := by decide +kernel
theorem dX12_match_162 : decode cX12_match 162 = .ok (.getfield 17, 3) := by decide +kernel
theorem dX12_match_165 : decode cX12_match 165 = .ok (.invokevirtual 320, 3) := by decide +kernel
theorem dX12_match_168 : decode cX12_match 168 = .ok (.aload_n 0, 1) := by decide +kernel
theorem dX12_match_169 : decode cX12_match 169 = .ok (.aload_n 0, 1) := by decide +kernel
theorem dX12_match_170 : decode cX12_match 170 = .ok (.getfield 36, 3) := by decide +kernel
theorem dX12_match_173 : decode cX12_match 173 = .ok (.putfield 42, 3) := by decide +kernel
theorem dX12_match_176 : decode cX12_match 176 = .ok (.aload_n 0, 1) := by decide +kernel
theorem dX12_match_177 : decode cX12_match 177 = .ok (.aload_n 0, 1) := by decide +kernel
theorem dX12_match_178 : decode cX12_match 178 = .ok (.getfield 39, 3) := by decide +kernel
theorem dX12_match_181 : decode cX12_match 181 = .ok (.putfield 45, 3) := by decide +kernel
theorem dX12_match_184 : decode cX12_match 184 = .ok (.aload_n 0, 1) := by decide +kernel
theorem dX12_match_185 : decode cX12_match 185 = .ok (.getfield 36, 3) := by decide +kernel
theorem dX12_match_188 : decode cX12_match 188 = .ok (.ifCond .le 9, 3) := by decide +kernel
theorem dX12_match_191 : decode cX12_match 191 = .ok (.aload_n 0, 1) := by decide +kernel
theorem dX12_match_192 : decode cX12_match 192 = .ok (.iconst 1, 1) := by decide +kernel
theorem dX12_match_193 : decode cX12_match 193 = .ok (.invokevirtual 312, 3) := by decide +kernel
theorem dX12_match_196 : decode cX12_match 196 = .ok (.ireturn, 1) := by decide +kernel
theorem dX12_match_197 : decode cX12_match 197 = .ok (.aload_n 0, 1) := by decide +kernel
theorem dX12_match_198 : decode cX12_match 198 = .ok (.aload_n 0, 1) := by decide +kernel
theorem dX12_match_199 : decode cX12_match 199 = .ok (.getfield 124, 3) := by decide +kernel
theorem dX12_match_202 : decode cX12_match 202 = .ok (.putfield 51, 3) := by decide +kernel
theorem dX12_match_205 : decode cX12_match 205 = .ok (.aload_n 0, 1) := by decide +kernel
theorem dX12_match_206 : decode cX12_match 206 = .ok (.iconst 1, 1) := by decide +kernel
theorem dX12_match_207 : decode cX12_match 207 = .ok (.putfield 146, 3) := by decide +kernel
theorem dX12_match_210 : decode cX12_match 210 = .ok (.aload_n 0, 1) := by decide +kernel
theorem dX12_match_211 : decode cX12_match 211 = .ok (.invokevirtual 452, 3) := by decide +kernel
theorem dX12_match_214 : decode cX12_match 214 = .ok (.aload_n 0, 1) := by decide +kernel
theorem dX12_match_215 : decode cX12_match 215 = .ok (.invokevirtual 309, 3) := by decide +kernel
theorem dX12_match_218 : decode cX12_match 218 = .ok (.iload_n 1, 1) := by decide +kernel
theorem dX12_match_219 : decode cX12_match 219 = .ok (.ireturn, 1) := by decide +kernel
theorem dX12_fault_0 : decode cX12_fault 0 = .ok (.iload_n 1, 1) := by decide +kernel
theorem dX12_fault_1 : decode cX12_fault 1 = .ok (.ifCond .ne 10, 3) := by decide +kernel
theorem dX12_fault_4 : decode cX12_fault 4 = .ok (.aload_n 0, 1) := by decide +kernel
theorem dX12_fault_5 : decode cX12_fault 5 = .ok (.getfield 42, 3) := by decide +kernel
theorem dX12_fault_8 : decode cX12_fault 8 = .ok (.goto 16, 3) := by decide +kernel
theorem dX12_fault_11 : decode cX12_fault 11 = .ok (.iload_n 1, 1) := by decide +kernel
theorem dX12_fault_12 : decode cX12_fault 12 = .ok (.iconst 1, 1) := by decide +kernel
theorem dX12_fault_13 : decode cX12_fault 13 = .ok (.if_icmp .ne 10, 3) := by decide +kernel
theorem dX12_fault_16 : decode cX12_fault 16 = .ok (.aload_n 0, 1) := by decide +kernel
theorem dX12_fault_17 : decode cX12_fault 17 = .ok (.getfield 45, 3) := by decide +kernel
theorem dX12_fault_20 : decode cX12_fault 20 = .ok (.goto 4, 3) := by decide +kernel
theorem dX12_fault_23 : decode cX12_fault 23 = .ok (.iconst (-1), 1) := by decide +kernel
theorem dX12_fault_24 : decode cX12_fault 24 = .ok (.ireturn, 1) := by decide +kernel
theorem dX12_refuses_0 : decode cX12_refuses 0 = .ok (.aload_n 0, 1) := by decide +kernel
theorem dX12_refuses_1 : decode cX12_refuses 1 = .ok (.getfield 149, 3) := by decide +kernel
theorem dX12_refuses_4 : decode cX12_refuses 4 = .ok (.iload_n 1, 1) := by decide +kernel
theorem dX12_refuses_5 : decode cX12_refuses 5 = .ok (.dup2, 1) := by decide +kernel
theorem dX12_refuses_6 : decode cX12_refuses 6 = .ok (.iaload, 1) := by decide +kernel
theorem dX12_refuses_7 : decode cX12_refuses 7 = .ok (.iconst 1, 1) := by decide +kernel
theorem dX12_refuses_8 : decode cX12_refuses 8 = .ok (.iadd, 1) := by decide +kernel
theorem dX12_refuses_9 : decode cX12_refuses 9 = .ok (.iastore, 1) := by decide +kernel
theorem dX12_refuses_10 : decode cX12_refuses 10 = .ok (.iconst (-1), 1) := by decide +kernel
theorem dX12_refuses_11 : decode cX12_refuses 11 = .ok (.ireturn, 1) := by decide +kernel
theorem dX12_status_0 : decode cX12_status 0 = .ok (.iload_n 1, 1) := by decide +kernel
end
section
theorem dX12_status_1 : decode cX12_status 1 = .ok (.iconst 0, 1) := by decide +kernel
theorem dX12_status_2 : decode cX12_status 2 = .ok (.iconst 5, 1) := by decide +kernel
theorem dX12_status_3 : decode cX12_status 3 = .ok (.invokestatic 362, 3) := by decide +kernel
theorem dX12_status_6 : decode cX12_status 6 = .ok (.ifCond .eq 12, 3) := by decide +kernel
theorem dX12_status_9 : decode cX12_status 9 = .ok (.aload_n 0, 1) := by decide +kernel
theorem dX12_status_10 : decode cX12_status 10 = .ok (.getfield 149, 3) := by decide +kernel
theorem dX12_status_13 : decode cX12_status 13 = .ok (.iload_n 1, 1) := by decide +kernel
theorem dX12_status_14 : decode cX12_status 14 = .ok (.iaload, 1) := by decide +kernel
theorem dX12_status_15 : decode cX12_status 15 = .ok (.goto 4, 3) := by decide +kernel
theorem dX12_status_18 : decode cX12_status 18 = .ok (.iconst (-1), 1) := by decide +kernel
theorem dX12_status_19 : decode cX12_status 19 = .ok (.ireturn, 1) := by decide +kernel
theorem dX12_fieldOf_0 : decode cX12_fieldOf 0 = .ok (.bipush 24, 2) := by decide +kernel
theorem dX12_fieldOf_2 : decode cX12_fieldOf 2 = .ok (.aload_n 0, 1) := by decide +kernel
theorem dX12_fieldOf_3 : decode cX12_fieldOf 3 = .ok (.getfield 51, 3) := by decide +kernel
theorem dX12_fieldOf_6 : decode cX12_fieldOf 6 = .ok (.imul, 1) := by decide +kernel
theorem dX12_fieldOf_7 : decode cX12_fieldOf 7 = .ok (.iload_n 2, 1) := by decide +kernel
theorem dX12_fieldOf_8 : decode cX12_fieldOf 8 = .ok (.iadd, 1) := by decide +kernel
theorem dX12_fieldOf_9 : decode cX12_fieldOf 9 = .ok (.istore 4, 2) := by decide +kernel
theorem dX12_fieldOf_11 : decode cX12_fieldOf 11 = .ok (.iload_n 1, 1) := by decide +kernel
theorem dX12_fieldOf_12 : decode cX12_fieldOf 12 = .ok (.aload_n 0, 1) := by decide +kernel
theorem dX12_fieldOf_13 : decode cX12_fieldOf 13 = .ok (.getfield 75, 3) := by decide +kernel
theorem dX12_fieldOf_16 : decode cX12_fieldOf 16 = .ok (.iload 4, 2) := by decide +kernel
theorem dX12_fieldOf_18 : decode cX12_fieldOf 18 = .ok (.iaload, 1) := by decide +kernel
theorem dX12_fieldOf_19 : decode cX12_fieldOf 19 = .ok (.if_icmp .lt 22, 3) := by decide +kernel
theorem dX12_fieldOf_22 : decode cX12_fieldOf 22 = .ok (.iload_n 1, 1) := by decide +kernel
theorem dX12_fieldOf_23 : decode cX12_fieldOf 23 = .ok (.aload_n 0, 1) := by decide +kernel
theorem dX12_fieldOf_24 : decode cX12_fieldOf 24 = .ok (.getfield 75, 3) := by decide +kernel
theorem dX12_fieldOf_27 : decode cX12_fieldOf 27 = .ok (.iload 4, 2) := by decide +kernel
theorem dX12_fieldOf_29 : decode cX12_fieldOf 29 = .ok (.iaload, 1) := by decide +kernel
theorem dX12_fieldOf_30 : decode cX12_fieldOf 30 = .ok (.aload_n 0, 1) := by decide +kernel
theorem dX12_fieldOf_31 : decode cX12_fieldOf 31 = .ok (.getfield 78, 3) := by decide +kernel
theorem dX12_fieldOf_34 : decode cX12_fieldOf 34 = .ok (.iload 4, 2) := by decide +kernel
theorem dX12_fieldOf_36 : decode cX12_fieldOf 36 = .ok (.iaload, 1) := by decide +kernel
theorem dX12_fieldOf_37 : decode cX12_fieldOf 37 = .ok (.iadd, 1) := by decide +kernel
theorem dX12_fieldOf_38 : decode cX12_fieldOf 38 = .ok (.if_icmp .lt 5, 3) := by decide +kernel
theorem dX12_fieldOf_41 : decode cX12_fieldOf 41 = .ok (.iconst (-1), 1) := by decide +kernel
theorem dX12_fieldOf_42 : decode cX12_fieldOf 42 = .ok (.ireturn, 1) := by decide +kernel
theorem dX12_fieldOf_43 : decode cX12_fieldOf 43 = .ok (.iload_n 1, 1) := by decide +kernel
theorem dX12_fieldOf_44 : decode cX12_fieldOf 44 = .ok (.aload_n 0, 1) := by decide +kernel
theorem dX12_fieldOf_45 : decode cX12_fieldOf 45 = .ok (.getfield 75, 3) := by decide +kernel
theorem dX12_fieldOf_48 : decode cX12_fieldOf 48 = .ok (.iload 4, 2) := by decide +kernel
theorem dX12_fieldOf_50 : decode cX12_fieldOf 50 = .ok (.iaload, 1) := by decide +kernel
theorem dX12_fieldOf_51 : decode cX12_fieldOf 51 = .ok (.isub, 1) := by decide +kernel
theorem dX12_fieldOf_52 : decode cX12_fieldOf 52 = .ok (.istore 5, 2) := by decide +kernel
theorem dX12_fieldOf_54 : decode cX12_fieldOf 54 = .ok (.aload_n 0, 1) := by decide +kernel
theorem dX12_fieldOf_55 : decode cX12_fieldOf 55 = .ok (.getfield 69, 3) := by decide +kernel
theorem dX12_fieldOf_58 : decode cX12_fieldOf 58 = .ok (.iload 4, 2) := by decide +kernel
theorem dX12_fieldOf_60 : decode cX12_fieldOf 60 = .ok (.iaload, 1) := by decide +kernel
theorem dX12_fieldOf_61 : decode cX12_fieldOf 61 = .ok (.iconst 1, 1) := by decide +kernel
theorem dX12_fieldOf_62 : decode cX12_fieldOf 62 = .ok (.if_icmp .ne 6, 3) := by decide +kernel
theorem dX12_fieldOf_65 : decode cX12_fieldOf 65 = .ok (.iload 5, 2) := by decide +kernel
theorem dX12_fieldOf_67 : decode cX12_fieldOf 67 = .ok (.ireturn, 1) := by decide +kernel
theorem dX12_fieldOf_68 : decode cX12_fieldOf 68 = .ok (.aload_n 0, 1) := by decide +kernel
theorem dX12_fieldOf_69 : decode cX12_fieldOf 69 = .ok (.aload_n 0, 1) := by decide +kernel
theorem dX12_fieldOf_70 : decode cX12_fieldOf 70 = .ok (.getfield 51, 3) := by decide +kernel
theorem dX12_fieldOf_73 : decode cX12_fieldOf 73 = .ok (.aload_n 0, 1) := by decide +kernel
theorem dX12_fieldOf_74 : decode cX12_fieldOf 74 = .ok (.getfield 72, 3) := by decide +kernel
theorem dX12_fieldOf_77 : decode cX12_fieldOf 77 = .ok (.iconst 2, 1) := by decide +kernel
theorem dX12_fieldOf_78 : decode cX12_fieldOf 78 = .ok (.iload 4, 2) := by decide +kernel
theorem dX12_fieldOf_80 : decode cX12_fieldOf 80 = .ok (.imul, 1) := by decide +kernel
theorem dX12_fieldOf_81 : decode cX12_fieldOf 81 = .ok (.iconst 1, 1) := by decide +kernel
theorem dX12_fieldOf_82 : decode cX12_fieldOf 82 = .ok (.iadd, 1) := by decide +kernel
theorem dX12_fieldOf_83 : decode cX12_fieldOf 83 = .ok (.iaload, 1) := by decide +kernel
theorem dX12_fieldOf_84 : decode cX12_fieldOf 84 = .ok (.invokevirtual 396, 3) := by decide +kernel
theorem dX12_fieldOf_87 : decode cX12_fieldOf 87 = .ok (.istore 6, 2) := by decide +kernel
theorem dX12_fieldOf_89 : decode cX12_fieldOf 89 = .ok (.iload_n 3, 1) := by decide +kernel
theorem dX12_fieldOf_90 : decode cX12_fieldOf 90 = .ok (.ifCond .ne 11, 3) := by decide +kernel
theorem dX12_fieldOf_93 : decode cX12_fieldOf 93 = .ok (.iload 5, 2) := by decide +kernel
theorem dX12_fieldOf_95 : decode cX12_fieldOf 95 = .ok (.iload 6, 2) := by decide +kernel
theorem dX12_fieldOf_97 : decode cX12_fieldOf 97 = .ok (.idiv, 1) := by decide +kernel
theorem dX12_fieldOf_98 : decode cX12_fieldOf 98 = .ok (.goto 8, 3) := by decide +kernel
theorem dX12_fieldOf_101 : decode cX12_fieldOf 101 = .ok (.iload 5, 2) := by decide +kernel
theorem dX12_fieldOf_103 : decode cX12_fieldOf 103 = .ok (.iload 6, 2) := by decide +kernel
theorem dX12_fieldOf_105 : decode cX12_fieldOf 105 = .ok (.irem, 1) := by decide +kernel
theorem dX12_fieldOf_106 : decode cX12_fieldOf 106 = .ok (.ireturn, 1) := by decide +kernel
theorem dX12_isFitting_0 : decode cX12_isFitting 0 = .ok (.iconst 0, 1) := by decide +kernel
theorem dX12_isFitting_1 : decode cX12_isFitting 1 = .ok (.istore 4, 2) := by decide +kernel
theorem dX12_isFitting_3 : decode cX12_isFitting 3 = .ok (.iconst 0, 1) := by decide +kernel
theorem dX12_isFitting_4 : decode cX12_isFitting 4 = .ok (.istore 5, 2) := by decide +kernel
theorem dX12_isFitting_6 : decode cX12_isFitting 6 = .ok (.aload_n 0, 1) := by decide +kernel
theorem dX12_isFitting_7 : decode cX12_isFitting 7 = .ok (.getfield 152, 3) := by decide +kernel
theorem dX12_isFitting_10 : decode cX12_isFitting 10 = .ok (.iconst 0, 1) := by decide +kernel
theorem dX12_isFitting_11 : decode cX12_isFitting 11 = .ok (.iload_n 3, 1) := by decide +kernel
theorem dX12_isFitting_12 : decode cX12_isFitting 12 = .ok (.iastore, 1) := by decide +kernel
theorem dX12_isFitting_13 : decode cX12_isFitting 13 = .ok (.iconst 4, 1) := by decide +kernel
theorem dX12_isFitting_14 : decode cX12_isFitting 14 = .ok (.bipush 12, 2) := by decide +kernel
theorem dX12_isFitting_16 : decode cX12_isFitting 16 = .ok (.aload_n 0, 1) := by decide +kernel
theorem dX12_isFitting_17 : decode cX12_isFitting 17 = .ok (.getfield 51, 3) := by decide +kernel
theorem dX12_isFitting_20 : decode cX12_isFitting 20 = .ok (.imul, 1) := by decide +kernel
theorem dX12_isFitting_21 : decode cX12_isFitting 21 = .ok (.iload_n 1, 1) := by decide +kernel
theorem dX12_isFitting_22 : decode cX12_isFitting 22 = .ok (.iadd, 1) := by decide +kernel
theorem dX12_isFitting_23 : decode cX12_isFitting 23 = .ok (.imul, 1) := by decide +kernel
theorem dX12_isFitting_24 : decode cX12_isFitting 24 = .ok (.iload_n 2, 1) := by decide +kernel
theorem dX12_isFitting_25 : decode cX12_isFitting 25 = .ok (.iadd, 1) := by decide +kernel
theorem dX12_isFitting_26 : decode cX12_isFitting 26 = .ok (.istore 6, 2) := by decide +kernel
theorem dX12_isFitting_28 : decode cX12_isFitting 28 = .ok (.sipush 2800, 3) := by decide +kernel
theorem dX12_isFitting_31 : decode cX12_isFitting 31 = .ok (.aload_n 0, 1) := by decide +kernel
theorem dX12_isFitting_32 : decode cX12_isFitting 32 = .ok (.getfield 51, 3) := by decide +kernel
theorem dX12_isFitting_35 : decode cX12_isFitting 35 = .ok (.imul, 1) := by decide +kernel
theorem dX12_isFitting_36 : decode cX12_isFitting 36 = .ok (.aload_n 0, 1) := by decide +kernel
theorem dX12_isFitting_37 : decode cX12_isFitting 37 = .ok (.getfield 99, 3) := by decide +kernel
theorem dX12_isFitting_40 : decode cX12_isFitting 40 = .ok (.iload 6, 2) := by decide +kernel
theorem dX12_isFitting_42 : decode cX12_isFitting 42 = .ok (.iaload, 1) := by decide +kernel
theorem dX12_isFitting_43 : decode cX12_isFitting 43 = .ok (.iadd, 1) := by decide +kernel
theorem dX12_isFitting_44 : decode cX12_isFitting 44 = .ok (.istore 7, 2) := by decide +kernel
theorem dX12_isFitting_46 : decode cX12_isFitting 46 = .ok (.iload 7, 2) := by decide +kernel
theorem dX12_isFitting_48 : decode cX12_isFitting 48 = .ok (.sipush 2800, 3) := by decide +kernel
theorem dX12_isFitting_51 : decode cX12_isFitting 51 = .ok (.aload_n 0, 1) := by decide +kernel
theorem dX12_isFitting_52 : decode cX12_isFitting 52 = .ok (.getfield 51, 3) := by decide +kernel
theorem dX12_isFitting_55 : decode cX12_isFitting 55 = .ok (.imul, 1) := by decide +kernel
theorem dX12_isFitting_56 : decode cX12_isFitting 56 = .ok (.aload_n 0, 1) := by decide +kernel
theorem dX12_isFitting_57 : decode cX12_isFitting 57 = .ok (.getfield 102, 3) := by decide +kernel
theorem dX12_isFitting_60 : decode cX12_isFitting 60 = .ok (.iload 6, 2) := by decide +kernel
theorem dX12_isFitting_62 : decode cX12_isFitting 62 = .ok (.iaload, 1) := by decide +kernel
theorem dX12_isFitting_63 : decode cX12_isFitting 63 = .ok (.iadd, 1) := by decide +kernel
theorem dX12_isFitting_64 : decode cX12_isFitting 64 = .ok (.if_icmp .ge 283, 3) := by decide +kernel
theorem dX12_isFitting_67 : decode cX12_isFitting 67 = .ok (.aload_n 0, 1) := by decide +kernel
theorem dX12_isFitting_68 : decode cX12_isFitting 68 = .ok (.getfield 108, 3) := by decide +kernel
theorem dX12_isFitting_71 : decode cX12_isFitting 71 = .ok (.iload 7, 2) := by decide +kernel
theorem dX12_isFitting_73 : decode cX12_isFitting 73 = .ok (.iaload, 1) := by decide +kernel
theorem dX12_isFitting_74 : decode cX12_isFitting 74 = .ok (.istore 8, 2) := by decide +kernel
theorem dX12_isFitting_76 : decode cX12_isFitting 76 = .ok (.aload_n 0, 1) := by decide +kernel
theorem dX12_isFitting_77 : decode cX12_isFitting 77 = .ok (.getfield 105, 3) := by decide +kernel
theorem dX12_isFitting_80 : decode cX12_isFitting 80 = .ok (.iload 7, 2) := by decide +kernel
theorem dX12_isFitting_82 : decode cX12_isFitting 82 = .ok (.iaload, 1) := by decide +kernel
theorem dX12_isFitting_83 : decode cX12_isFitting 83 = .ok (.tableswitch 236 0 5 #[37, 51, 91, 170, 205, 211], 37) := by decide +kernel
theorem dX12_isFitting_120 : decode cX12_isFitting 120 = .ok (.aload_n 0, 1) := by decide +kernel
theorem dX12_isFitting_121 : decode cX12_isFitting 121 = .ok (.getfield 155, 3) := by decide +kernel
theorem dX12_isFitting_124 : decode cX12_isFitting 124 = .ok (.iload 4, 2) := by decide +kernel
theorem dX12_isFitting_126 : decode cX12_isFitting 126 = .ok (.iconst 1, 1) := by decide +kernel
theorem dX12_isFitting_127 : decode cX12_isFitting 127 = .ok (.iastore, 1) := by decide +kernel
theorem dX12_isFitting_128 : decode cX12_isFitting 128 = .ok (.iinc 4 1, 3) := by decide +kernel
theorem dX12_isFitting_131 : decode cX12_isFitting 131 = .ok (.goto 210, 3) := by decide +kernel
theorem dX12_isFitting_134 : decode cX12_isFitting 134 = .ok (.aload_n 0, 1) := by decide +kernel
theorem dX12_isFitting_135 : decode cX12_isFitting 135 = .ok (.getfield 155, 3) := by decide +kernel
theorem dX12_isFitting_138 : decode cX12_isFitting 138 = .ok (.iload 4, 2) := by decide +kernel
theorem dX12_isFitting_140 : decode cX12_isFitting 140 = .ok (.aload_n 0, 1) := by decide +kernel
theorem dX12_isFitting_141 : decode cX12_isFitting 141 = .ok (.getfield 152, 3) := by decide +kernel
theorem dX12_isFitting_144 : decode cX12_isFitting 144 = .ok (.iload 5, 2) := by decide +kernel
theorem dX12_isFitting_146 : decode cX12_isFitting 146 = .ok (.iaload, 1) := by decide +kernel
theorem dX12_isFitting_147 : decode cX12_isFitting 147 = .ok (.iload 8, 2) := by decide +kernel
theorem dX12_isFitting_149 : decode cX12_isFitting 149 = .ok (.aload_n 0, 1) := by decide +kernel
theorem dX12_isFitting_150 : decode cX12_isFitting 150 = .ok (.getfield 111, 3) := by decide +kernel
theorem dX12_isFitting_153 : decode cX12_isFitting 153 = .ok (.iload 7, 2) := by decide +kernel
theorem dX12_isFitting_155 : decode cX12_isFitting 155 = .ok (.iaload, 1) := by decide +kernel
theorem dX12_isFitting_156 : decode cX12_isFitting 156 = .ok (.invokestatic 362, 3) := by decide +kernel
theorem dX12_isFitting_159 : decode cX12_isFitting 159 = .ok (.ifCond .eq 7, 3) := by decide +kernel
theorem dX12_isFitting_162 : decode cX12_isFitting 162 = .ok (.iconst 1, 1) := by decide +kernel
theorem dX12_isFitting_163 : decode cX12_isFitting 163 = .ok (.goto 4, 3) := by decide +kernel
theorem dX12_isFitting_166 : decode cX12_isFitting 166 = .ok (.iconst 0, 1) := by decide +kernel
theorem dX12_isFitting_167 : decode cX12_isFitting 167 = .ok (.iastore, 1) := by decide +kernel
theorem dX12_isFitting_168 : decode cX12_isFitting 168 = .ok (.iinc 4 1, 3) := by decide +kernel
theorem dX12_isFitting_171 : decode cX12_isFitting 171 = .ok (.goto 170, 3) := by decide +kernel
theorem dX12_isFitting_174 : decode cX12_isFitting 174 = .ok (.aload_n 0, 1) := by decide +kernel
theorem dX12_isFitting_175 : decode cX12_isFitting 175 = .ok (.getfield 155, 3) := by decide +kernel
theorem dX12_isFitting_178 : decode cX12_isFitting 178 = .ok (.iload 4, 2) := by decide +kernel
theorem dX12_isFitting_180 : decode cX12_isFitting 180 = .ok (.aload_n 0, 1) := by decide +kernel
theorem dX12_isFitting_181 : decode cX12_isFitting 181 = .ok (.getfield 152, 3) := by decide +kernel
theorem dX12_isFitting_184 : decode cX12_isFitting 184 = .ok (.iload 5, 2) := by decide +kernel
theorem dX12_isFitting_186 : decode cX12_isFitting 186 = .ok (.iaload, 1) := by decide +kernel
theorem dX12_isFitting_187 : decode cX12_isFitting 187 = .ok (.aload_n 0, 1) := by decide +kernel
theorem dX12_isFitting_188 : decode cX12_isFitting 188 = .ok (.getfield 75, 3) := by decide +kernel
theorem dX12_isFitting_191 : decode cX12_isFitting 191 = .ok (.bipush 24, 2) := by decide +kernel
theorem dX12_isFitting_193 : decode cX12_isFitting 193 = .ok (.aload_n 0, 1) := by decide +kernel
theorem dX12_isFitting_194 : decode cX12_isFitting 194 = .ok (.getfield 51, 3) := by decide +kernel
theorem dX12_isFitting_197 : decode cX12_isFitting 197 = .ok (.imul, 1) := by decide +kernel
theorem dX12_isFitting_198 : decode cX12_isFitting 198 = .ok (.iload 8, 2) := by decide +kernel
theorem dX12_isFitting_200 : decode cX12_isFitting 200 = .ok (.iadd, 1) := by decide +kernel
theorem dX12_isFitting_201 : decode cX12_isFitting 201 = .ok (.iaload, 1) := by decide +kernel
theorem dX12_isFitting_202 : decode cX12_isFitting 202 = .ok (.aload_n 0, 1) := by decide +kernel
theorem dX12_isFitting_203 : decode cX12_isFitting 203 = .ok (.getfield 75, 3) := by decide +kernel
theorem dX12_isFitting_206 : decode cX12_isFitting 206 = .ok (.bipush 24, 2) := by decide +kernel
theorem dX12_isFitting_208 : decode cX12_isFitting 208 = .ok (.aload_n 0, 1) := by decide +kernel
theorem dX12_isFitting_209 : decode cX12_isFitting 209 = .ok (.getfield 51, 3) := by decide +kernel
theorem dX12_isFitting_212 : decode cX12_isFitting 212 = .ok (.imul, 1) := by decide +kernel
theorem dX12_isFitting_213 : decode cX12_isFitting 213 = .ok (.iload 8, 2) := by decide +kernel
theorem dX12_isFitting_215 : decode cX12_isFitting 215 = .ok (.iadd, 1) := by decide +kernel
theorem dX12_isFitting_216 : decode cX12_isFitting 216 = .ok (.iaload, 1) := by decide +kernel
theorem dX12_isFitting_217 : decode cX12_isFitting 217 = .ok (.aload_n 0, 1) := by decide +kernel
theorem dX12_isFitting_218 : decode cX12_isFitting 218 = .ok (.getfield 78, 3) := by decide +kernel
theorem dX12_isFitting_221 : decode cX12_isFitting 221 = .ok (.bipush 24, 2) := by decide +kernel
theorem dX12_isFitting_223 : decode cX12_isFitting 223 = .ok (.aload_n 0, 1) := by decide +kernel
theorem dX12_isFitting_224 : decode cX12_isFitting 224 = .ok (.getfield 51, 3) := by decide +kernel
theorem dX12_isFitting_227 : decode cX12_isFitting 227 = .ok (.imul, 1) := by decide +kernel
theorem dX12_isFitting_228 : decode cX12_isFitting 228 = .ok (.iload 8, 2) := by decide +kernel
theorem dX12_isFitting_230 : decode cX12_isFitting 230 = .ok (.iadd, 1) := by decide +kernel
theorem dX12_isFitting_231 : decode cX12_isFitting 231 = .ok (.iaload, 1) := by decide +kernel
theorem dX12_isFitting_232 : decode cX12_isFitting 232 = .ok (.iadd, 1) := by decide +kernel
theorem dX12_isFitting_233 : decode cX12_isFitting 233 = .ok (.iconst 1, 1) := by decide +kernel
theorem dX12_isFitting_234 : decode cX12_isFitting 234 = .ok (.isub, 1) := by decide +kernel
theorem dX12_isFitting_235 : decode cX12_isFitting 235 = .ok (.invokestatic 362, 3) := by decide +kernel
theorem dX12_isFitting_238 : decode cX12_isFitting 238 = .ok (.ifCond .eq 7, 3) := by decide +kernel
theorem dX12_isFitting_241 : decode cX12_isFitting 241 = .ok (.iconst 1, 1) := by decide +kernel
theorem dX12_isFitting_242 : decode cX12_isFitting 242 = .ok (.goto 4, 3) := by decide +kernel
theorem dX12_isFitting_245 : decode cX12_isFitting 245 = .ok (.iconst 0, 1) := by decide +kernel
theorem dX12_isFitting_246 : decode cX12_isFitting 246 = .ok (.iastore, 1) := by decide +kernel
theorem dX12_isFitting_247 : decode cX12_isFitting 247 = .ok (.iinc 4 1, 3) := by decide +kernel
theorem dX12_isFitting_250 : decode cX12_isFitting 250 = .ok (.goto 91, 3) := by decide +kernel
theorem dX12_isFitting_253 : decode cX12_isFitting 253 = .ok (.aload_n 0, 1) := by decide +kernel
theorem dX12_isFitting_254 : decode cX12_isFitting 254 = .ok (.getfield 152, 3) := by decide +kernel
theorem dX12_isFitting_257 : decode cX12_isFitting 257 = .ok (.iload 5, 2) := by decide +kernel
theorem dX12_isFitting_259 : decode cX12_isFitting 259 = .ok (.iconst 1, 1) := by decide +kernel
theorem dX12_isFitting_260 : decode cX12_isFitting 260 = .ok (.iadd, 1) := by decide +kernel
theorem dX12_isFitting_261 : decode cX12_isFitting 261 = .ok (.aload_n 0, 1) := by decide +kernel
theorem dX12_isFitting_262 : decode cX12_isFitting 262 = .ok (.aload_n 0, 1) := by decide +kernel
theorem dX12_isFitting_263 : decode cX12_isFitting 263 = .ok (.getfield 152, 3) := by decide +kernel
theorem dX12_isFitting_266 : decode cX12_isFitting 266 = .ok (.iload 5, 2) := by decide +kernel
theorem dX12_isFitting_268 : decode cX12_isFitting 268 = .ok (.iaload, 1) := by decide +kernel
theorem dX12_isFitting_269 : decode cX12_isFitting 269 = .ok (.iload 8, 2) := by decide +kernel
theorem dX12_isFitting_271 : decode cX12_isFitting 271 = .ok (.aload_n 0, 1) := by decide +kernel
theorem dX12_isFitting_272 : decode cX12_isFitting 272 = .ok (.getfield 111, 3) := by decide +kernel
theorem dX12_isFitting_275 : decode cX12_isFitting 275 = .ok (.iload 7, 2) := by decide +kernel
theorem dX12_isFitting_277 : decode cX12_isFitting 277 = .ok (.iaload, 1) := by decide +kernel
theorem dX12_isFitting_278 : decode cX12_isFitting 278 = .ok (.invokevirtual 455, 3) := by decide +kernel
theorem dX12_isFitting_281 : decode cX12_isFitting 281 = .ok (.iastore, 1) := by decide +kernel
theorem dX12_isFitting_282 : decode cX12_isFitting 282 = .ok (.iinc 5 1, 3) := by decide +kernel
theorem dX12_isFitting_285 : decode cX12_isFitting 285 = .ok (.goto 56, 3) := by decide +kernel
theorem dX12_isFitting_288 : decode cX12_isFitting 288 = .ok (.iinc 5 (-1), 3) := by decide +kernel
theorem dX12_isFitting_291 : decode cX12_isFitting 291 = .ok (.goto 50, 3) := by decide +kernel
theorem dX12_isFitting_294 : decode cX12_isFitting 294 = .ok (.iinc 4 (-1), 3) := by decide +kernel
theorem dX12_isFitting_297 : decode cX12_isFitting 297 = .ok (.aload_n 0, 1) := by decide +kernel
theorem dX12_isFitting_298 : decode cX12_isFitting 298 = .ok (.getfield 155, 3) := by decide +kernel
theorem dX12_isFitting_301 : decode cX12_isFitting 301 = .ok (.iload 4, 2) := by decide +kernel
theorem dX12_isFitting_303 : decode cX12_isFitting 303 = .ok (.iconst 1, 1) := by decide +kernel
theorem dX12_isFitting_304 : decode cX12_isFitting 304 = .ok (.isub, 1) := by decide +kernel
theorem dX12_isFitting_305 : decode cX12_isFitting 305 = .ok (.dup2, 1) := by decide +kernel
theorem dX12_isFitting_306 : decode cX12_isFitting 306 = .ok (.iaload, 1) := by decide +kernel
theorem dX12_isFitting_307 : decode cX12_isFitting 307 = .ok (.aload_n 0, 1) := by decide +kernel
theorem dX12_isFitting_308 : decode cX12_isFitting 308 = .ok (.getfield 155, 3) := by decide +kernel
theorem dX12_isFitting_311 : decode cX12_isFitting 311 = .ok (.iload 4, 2) := by decide +kernel
theorem dX12_isFitting_313 : decode cX12_isFitting 313 = .ok (.iaload, 1) := by decide +kernel
theorem dX12_isFitting_314 : decode cX12_isFitting 314 = .ok (.iand, 1) := by decide +kernel
theorem dX12_isFitting_315 : decode cX12_isFitting 315 = .ok (.iastore, 1) := by decide +kernel
theorem dX12_isFitting_316 : decode cX12_isFitting 316 = .ok (.goto 25, 3) := by decide +kernel
theorem dX12_isFitting_319 : decode cX12_isFitting 319 = .ok (.iinc 4 (-1), 3) := by decide +kernel
theorem dX12_isFitting_322 : decode cX12_isFitting 322 = .ok (.aload_n 0, 1) := by decide +kernel
theorem dX12_isFitting_323 : decode cX12_isFitting 323 = .ok (.getfield 155, 3) := by decide +kernel
theorem dX12_isFitting_326 : decode cX12_isFitting 326 = .ok (.iload 4, 2) := by decide +kernel
theorem dX12_isFitting_328 : decode cX12_isFitting 328 = .ok (.iconst 1, 1) := by decide +kernel
theorem dX12_isFitting_329 : decode cX12_isFitting 329 = .ok (.isub, 1) := by decide +kernel
theorem dX12_isFitting_330 : decode cX12_isFitting 330 = .ok (.dup2, 1) := by decide +kernel
theorem dX12_isFitting_331 : decode cX12_isFitting 331 = .ok (.iaload, 1) := by decide +kernel
theorem dX12_isFitting_332 : decode cX12_isFitting 332 = .ok (.aload_n 0, 1) := by decide +kernel
theorem dX12_isFitting_333 : decode cX12_isFitting 333 = .ok (.getfield 155, 3) := by decide +kernel
theorem dX12_isFitting_336 : decode cX12_isFitting 336 = .ok (.iload 4, 2) := by decide +kernel
theorem dX12_isFitting_338 : decode cX12_isFitting 338 = .ok (.iaload, 1) := by decide +kernel
theorem dX12_isFitting_339 : decode cX12_isFitting 339 = .ok (.ior, 1) := by decide +kernel
theorem dX12_isFitting_340 : decode cX12_isFitting 340 = .ok (.iastore, 1) := by decide +kernel
theorem dX12_isFitting_341 : decode cX12_isFitting 341 = .ok (.iinc 7 1, 3) := by decide +kernel
theorem dX12_isFitting_344 : decode cX12_isFitting 344 = .ok (.goto (-298), 3) := by decide +kernel
theorem dX12_isFitting_347 : decode cX12_isFitting 347 = .ok (.aload_n 0, 1) := by decide +kernel
theorem dX12_isFitting_348 : decode cX12_isFitting 348 = .ok (.getfield 155, 3) := by decide +kernel
theorem dX12_isFitting_351 : decode cX12_isFitting 351 = .ok (.iconst 0, 1) := by decide +kernel
theorem dX12_isFitting_352 : decode cX12_isFitting 352 = .ok (.iaload, 1) := by decide +kernel
theorem dX12_isFitting_353 : decode cX12_isFitting 353 = .ok (.iconst 1, 1) := by decide +kernel
theorem dX12_isFitting_354 : decode cX12_isFitting 354 = .ok (.if_icmp .ne 7, 3) := by decide +kernel
theorem dX12_isFitting_357 : decode cX12_isFitting 357 = .ok (.iconst 1, 1) := by decide +kernel
theorem dX12_isFitting_358 : decode cX12_isFitting 358 = .ok (.goto 4, 3) := by decide +kernel
theorem dX12_isFitting_361 : decode cX12_isFitting 361 = .ok (.iconst 0, 1) := by decide +kernel
theorem dX12_isFitting_362 : decode cX12_isFitting 362 = .ok (.ireturn, 1) := by decide +kernel
theorem dX12_columns_0 : decode cX12_columns 0 = .ok (.aload_n 0, 1) := by decide +kernel
theorem dX12_columns_1 : decode cX12_columns 1 = .ok (.getfield 81, 3) := by decide +kernel
theorem dX12_columns_4 : decode cX12_columns 4 = .ok (.aload_n 0, 1) := by decide +kernel
theorem dX12_columns_5 : decode cX12_columns 5 = .ok (.getfield 51, 3) := by decide +kernel
theorem dX12_columns_8 : decode cX12_columns 8 = .ok (.iaload, 1) := by decide +kernel
theorem dX12_columns_9 : decode cX12_columns 9 = .ok (.ireturn, 1) := by decide +kernel
theorem dX12_columnValues_0 : decode cX12_columnValues 0 = .ok (.aload_n 0, 1) := by decide +kernel
theorem dX12_columnValues_1 : decode cX12_columnValues 1 = .ok (.aload_n 0, 1) := by decide +kernel
theorem dX12_columnValues_2 : decode cX12_columnValues 2 = .ok (.getfield 51, 3) := by decide +kernel
theorem dX12_columnValues_5 : decode cX12_columnValues 5 = .ok (.aload_n 0, 1) := by decide +kernel
theorem dX12_columnValues_6 : decode cX12_columnValues 6 = .ok (.getfield 84, 3) := by decide +kernel
theorem dX12_columnValues_9 : decode cX12_columnValues 9 = .ok (.iconst 4, 1) := by decide +kernel
theorem dX12_columnValues_10 : decode cX12_columnValues 10 = .ok (.aload_n 0, 1) := by decide +kernel
theorem dX12_columnValues_11 : decode cX12_columnValues 11 = .ok (.getfield 51, 3) := by decide +kernel
theorem dX12_columnValues_14 : decode cX12_columnValues 14 = .ok (.imul, 1) := by decide +kernel
theorem dX12_columnValues_15 : decode cX12_columnValues 15 = .ok (.iload_n 1, 1) := by decide +kernel
theorem dX12_columnValues_16 : decode cX12_columnValues 16 = .ok (.iadd, 1) := by decide +kernel
theorem dX12_columnValues_17 : decode cX12_columnValues 17 = .ok (.iaload, 1) := by decide +kernel
theorem dX12_columnValues_18 : decode cX12_columnValues 18 = .ok (.invokevirtual 396, 3) := by decide +kernel
theorem dX12_columnValues_21 : decode cX12_columnValues 21 = .ok (.ireturn, 1) := by decide +kernel
theorem dX12_lays_0 : decode cX12_lays 0 = .ok (.aload_n 0, 1) := by decide +kernel
theorem dX12_lays_1 : decode cX12_lays 1 = .ok (.iconst 1, 1) := by decide +kernel
theorem dX12_lays_2 : decode cX12_lays 2 = .ok (.putfield 170, 3) := by decide +kernel
theorem dX12_lays_5 : decode cX12_lays 5 = .ok (.iconst 0, 1) := by decide +kernel
theorem dX12_lays_6 : decode cX12_lays 6 = .ok (.istore_n 1, 1) := by decide +kernel
theorem dX12_lays_7 : decode cX12_lays 7 = .ok (.iload_n 1, 1) := by decide +kernel
theorem dX12_lays_8 : decode cX12_lays 8 = .ok (.aload_n 0, 1) := by decide +kernel
theorem dX12_lays_9 : decode cX12_lays 9 = .ok (.invokevirtual 459, 3) := by decide +kernel
theorem dX12_lays_12 : decode cX12_lays 12 = .ok (.if_icmp .ge 184, 3) := by decide +kernel
theorem dX12_lays_15 : decode cX12_lays 15 = .ok (.iconst 0, 1) := by decide +kernel
theorem dX12_lays_16 : decode cX12_lays 16 = .ok (.istore_n 2, 1) := by decide +kernel
theorem dX12_lays_17 : decode cX12_lays 17 = .ok (.iload_n 2, 1) := by decide +kernel
theorem dX12_lays_18 : decode cX12_lays 18 = .ok (.sipush 4096, 3) := by decide +kernel
theorem dX12_lays_21 : decode cX12_lays 21 = .ok (.if_icmp .ge 16, 3) := by decide +kernel
theorem dX12_lays_24 : decode cX12_lays 24 = .ok (.aload_n 0, 1) := by decide +kernel
theorem dX12_lays_25 : decode cX12_lays 25 = .ok (.getfield 167, 3) := by decide +kernel
theorem dX12_lays_28 : decode cX12_lays 28 = .ok (.iload_n 2, 1) := by decide +kernel
theorem dX12_lays_29 : decode cX12_lays 29 = .ok (.iconst (-1), 1) := by decide +kernel
theorem dX12_lays_30 : decode cX12_lays 30 = .ok (.iastore, 1) := by decide +kernel
theorem dX12_lays_31 : decode cX12_lays 31 = .ok (.iinc 2 1, 3) := by decide +kernel
theorem dX12_lays_34 : decode cX12_lays 34 = .ok (.goto (-17), 3) := by decide +kernel
theorem dX12_lays_37 : decode cX12_lays 37 = .ok (.aload_n 0, 1) := by decide +kernel
theorem dX12_lays_38 : decode cX12_lays 38 = .ok (.getfield 164, 3) := by decide +kernel
theorem dX12_lays_41 : decode cX12_lays 41 = .ok (.iload_n 1, 1) := by decide +kernel
theorem dX12_lays_42 : decode cX12_lays 42 = .ok (.iconst 0, 1) := by decide +kernel
theorem dX12_lays_43 : decode cX12_lays 43 = .ok (.iastore, 1) := by decide +kernel
theorem dX12_lays_44 : decode cX12_lays 44 = .ok (.iconst 0, 1) := by decide +kernel
theorem dX12_lays_45 : decode cX12_lays 45 = .ok (.istore_n 2, 1) := by decide +kernel
theorem dX12_lays_46 : decode cX12_lays 46 = .ok (.iload_n 2, 1) := by decide +kernel
theorem dX12_lays_47 : decode cX12_lays 47 = .ok (.aload_n 0, 1) := by decide +kernel
theorem dX12_lays_48 : decode cX12_lays 48 = .ok (.iload_n 1, 1) := by decide +kernel
theorem dX12_lays_49 : decode cX12_lays 49 = .ok (.invokevirtual 463, 3) := by decide +kernel
theorem dX12_lays_52 : decode cX12_lays 52 = .ok (.if_icmp .ge 124, 3) := by decide +kernel
theorem dX12_lays_55 : decode cX12_lays 55 = .ok (.iconst 0, 1) := by decide +kernel
theorem dX12_lays_56 : decode cX12_lays 56 = .ok (.istore_n 3, 1) := by decide +kernel
theorem dX12_lays_57 : decode cX12_lays 57 = .ok (.iconst 0, 1) := by decide +kernel
theorem dX12_lays_58 : decode cX12_lays 58 = .ok (.istore 4, 2) := by decide +kernel
theorem dX12_lays_60 : decode cX12_lays 60 = .ok (.iload 4, 2) := by decide +kernel
theorem dX12_lays_62 : decode cX12_lays 62 = .ok (.aload_n 0, 1) := by decide +kernel
theorem dX12_lays_63 : decode cX12_lays 63 = .ok (.getfield 87, 3) := by decide +kernel
theorem dX12_lays_66 : decode cX12_lays 66 = .ok (.aload_n 0, 1) := by decide +kernel
theorem dX12_lays_67 : decode cX12_lays 67 = .ok (.getfield 51, 3) := by decide +kernel
theorem dX12_lays_70 : decode cX12_lays 70 = .ok (.iaload, 1) := by decide +kernel
theorem dX12_lays_71 : decode cX12_lays 71 = .ok (.if_icmp .ge 31, 3) := by decide +kernel
theorem dX12_lays_74 : decode cX12_lays 74 = .ok (.iload_n 3, 1) := by decide +kernel
theorem dX12_lays_75 : decode cX12_lays 75 = .ok (.aload_n 0, 1) := by decide +kernel
theorem dX12_lays_76 : decode cX12_lays 76 = .ok (.iload 4, 2) := by decide +kernel
theorem dX12_lays_78 : decode cX12_lays 78 = .ok (.iload_n 1, 1) := by decide +kernel
theorem dX12_lays_79 : decode cX12_lays 79 = .ok (.iload_n 2, 1) := by decide +kernel
theorem dX12_lays_80 : decode cX12_lays 80 = .ok (.invokevirtual 466, 3) := by decide +kernel
theorem dX12_lays_83 : decode cX12_lays 83 = .ok (.ifCond .eq 10, 3) := by decide +kernel
theorem dX12_lays_86 : decode cX12_lays 86 = .ok (.iconst 1, 1) := by decide +kernel
theorem dX12_lays_87 : decode cX12_lays 87 = .ok (.iload 4, 2) := by decide +kernel
theorem dX12_lays_89 : decode cX12_lays 89 = .ok (.ishl, 1) := by decide +kernel
theorem dX12_lays_90 : decode cX12_lays 90 = .ok (.goto 4, 3) := by decide +kernel
theorem dX12_lays_93 : decode cX12_lays 93 = .ok (.iconst 0, 1) := by decide +kernel
theorem dX12_lays_94 : decode cX12_lays 94 = .ok (.ior, 1) := by decide +kernel
theorem dX12_lays_95 : decode cX12_lays 95 = .ok (.istore_n 3, 1) := by decide +kernel
theorem dX12_lays_96 : decode cX12_lays 96 = .ok (.iinc 4 1, 3) := by decide +kernel
theorem dX12_lays_99 : decode cX12_lays 99 = .ok (.goto (-39), 3) := by decide +kernel
theorem dX12_lays_102 : decode cX12_lays 102 = .ok (.aload_n 0, 1) := by decide +kernel
theorem dX12_lays_103 : decode cX12_lays 103 = .ok (.getfield 167, 3) := by decide +kernel
theorem dX12_lays_106 : decode cX12_lays 106 = .ok (.iload_n 3, 1) := by decide +kernel
theorem dX12_lays_107 : decode cX12_lays 107 = .ok (.iaload, 1) := by decide +kernel
theorem dX12_lays_108 : decode cX12_lays 108 = .ok (.iconst (-1), 1) := by decide +kernel
theorem dX12_lays_109 : decode cX12_lays 109 = .ok (.if_icmp .ne 43, 3) := by decide +kernel
theorem dX12_lays_112 : decode cX12_lays 112 = .ok (.aload_n 0, 1) := by decide +kernel
theorem dX12_lays_113 : decode cX12_lays 113 = .ok (.getfield 167, 3) := by decide +kernel
theorem dX12_lays_116 : decode cX12_lays 116 = .ok (.iload_n 3, 1) := by decide +kernel
theorem dX12_lays_117 : decode cX12_lays 117 = .ok (.aload_n 0, 1) := by decide +kernel
theorem dX12_lays_118 : decode cX12_lays 118 = .ok (.getfield 164, 3) := by decide +kernel
theorem dX12_lays_121 : decode cX12_lays 121 = .ok (.iload_n 1, 1) := by decide +kernel
theorem dX12_lays_122 : decode cX12_lays 122 = .ok (.iaload, 1) := by decide +kernel
theorem dX12_lays_123 : decode cX12_lays 123 = .ok (.iastore, 1) := by decide +kernel
theorem dX12_lays_124 : decode cX12_lays 124 = .ok (.aload_n 0, 1) := by decide +kernel
theorem dX12_lays_125 : decode cX12_lays 125 = .ok (.getfield 161, 3) := by decide +kernel
theorem dX12_lays_128 : decode cX12_lays 128 = .ok (.sipush 2010, 3) := by decide +kernel
theorem dX12_lays_131 : decode cX12_lays 131 = .ok (.iload_n 1, 1) := by decide +kernel
theorem dX12_lays_132 : decode cX12_lays 132 = .ok (.imul, 1) := by decide +kernel
theorem dX12_lays_133 : decode cX12_lays 133 = .ok (.aload_n 0, 1) := by decide +kernel
theorem dX12_lays_134 : decode cX12_lays 134 = .ok (.getfield 164, 3) := by decide +kernel
theorem dX12_lays_137 : decode cX12_lays 137 = .ok (.iload_n 1, 1) := by decide +kernel
theorem dX12_lays_138 : decode cX12_lays 138 = .ok (.iaload, 1) := by decide +kernel
theorem dX12_lays_139 : decode cX12_lays 139 = .ok (.iadd, 1) := by decide +kernel
theorem dX12_lays_140 : decode cX12_lays 140 = .ok (.iload_n 3, 1) := by decide +kernel
theorem dX12_lays_141 : decode cX12_lays 141 = .ok (.iastore, 1) := by decide +kernel
theorem dX12_lays_142 : decode cX12_lays 142 = .ok (.aload_n 0, 1) := by decide +kernel
theorem dX12_lays_143 : decode cX12_lays 143 = .ok (.getfield 164, 3) := by decide +kernel
theorem dX12_lays_146 : decode cX12_lays 146 = .ok (.iload_n 1, 1) := by decide +kernel
theorem dX12_lays_147 : decode cX12_lays 147 = .ok (.dup2, 1) := by decide +kernel
theorem dX12_lays_148 : decode cX12_lays 148 = .ok (.iaload, 1) := by decide +kernel
theorem dX12_lays_149 : decode cX12_lays 149 = .ok (.iconst 1, 1) := by decide +kernel
theorem dX12_lays_150 : decode cX12_lays 150 = .ok (.iadd, 1) := by decide +kernel
theorem dX12_lays_151 : decode cX12_lays 151 = .ok (.iastore, 1) := by decide +kernel
theorem dX12_lays_152 : decode cX12_lays 152 = .ok (.aload_n 0, 1) := by decide +kernel
theorem dX12_lays_153 : decode cX12_lays 153 = .ok (.getfield 158, 3) := by decide +kernel
theorem dX12_lays_156 : decode cX12_lays 156 = .ok (.sipush 2010, 3) := by decide +kernel
theorem dX12_lays_159 : decode cX12_lays 159 = .ok (.iload_n 1, 1) := by decide +kernel
theorem dX12_lays_160 : decode cX12_lays 160 = .ok (.imul, 1) := by decide +kernel
theorem dX12_lays_161 : decode cX12_lays 161 = .ok (.iload_n 2, 1) := by decide +kernel
theorem dX12_lays_162 : decode cX12_lays 162 = .ok (.iadd, 1) := by decide +kernel
theorem dX12_lays_163 : decode cX12_lays 163 = .ok (.aload_n 0, 1) := by decide +kernel
theorem dX12_lays_164 : decode cX12_lays 164 = .ok (.getfield 167, 3) := by decide +kernel
theorem dX12_lays_167 : decode cX12_lays 167 = .ok (.iload_n 3, 1) := by decide +kernel
theorem dX12_lays_168 : decode cX12_lays 168 = .ok (.iaload, 1) := by decide +kernel
theorem dX12_lays_169 : decode cX12_lays 169 = .ok (.iastore, 1) := by decide +kernel
theorem dX12_lays_170 : decode cX12_lays 170 = .ok (.iinc 2 1, 3) := by decide +kernel
theorem dX12_lays_173 : decode cX12_lays 173 = .ok (.goto (-127), 3) := by decide +kernel
theorem dX12_lays_176 : decode cX12_lays 176 = .ok (.aload_n 0, 1) := by decide +kernel
theorem dX12_lays_177 : decode cX12_lays 177 = .ok (.dup, 1) := by decide +kernel
theorem dX12_lays_178 : decode cX12_lays 178 = .ok (.getfield 170, 3) := by decide +kernel
theorem dX12_lays_181 : decode cX12_lays 181 = .ok (.aload_n 0, 1) := by decide +kernel
theorem dX12_lays_182 : decode cX12_lays 182 = .ok (.iload_n 1, 1) := by decide +kernel
theorem dX12_lays_183 : decode cX12_lays 183 = .ok (.invokevirtual 463, 3) := by decide +kernel
theorem dX12_lays_186 : decode cX12_lays 186 = .ok (.imul, 1) := by decide +kernel
theorem dX12_lays_187 : decode cX12_lays 187 = .ok (.putfield 170, 3) := by decide +kernel
theorem dX12_lays_190 : decode cX12_lays 190 = .ok (.iinc 1 1, 3) := by decide +kernel
theorem dX12_lays_193 : decode cX12_lays 193 = .ok (.goto (-186), 3) := by decide +kernel
theorem dX12_lays_196 : decode cX12_lays 196 = .ok (.return_, 1) := by decide +kernel
theorem dX12_copies_0 : decode cX12_copies 0 = .ok (.aload_n 0, 1) := by decide +kernel
theorem dX12_copies_1 : decode cX12_copies 1 = .ok (.getfield 173, 3) := by decide +kernel
theorem dX12_copies_4 : decode cX12_copies 4 = .ok (.iload_n 1, 1) := by decide +kernel
theorem dX12_copies_5 : decode cX12_copies 5 = .ok (.aload_n 0, 1) := by decide +kernel
theorem dX12_copies_6 : decode cX12_copies 6 = .ok (.getfield 173, 3) := by decide +kernel
theorem dX12_copies_9 : decode cX12_copies 9 = .ok (.iload_n 2, 1) := by decide +kernel
theorem dX12_copies_10 : decode cX12_copies 10 = .ok (.iaload, 1) := by decide +kernel
theorem dX12_copies_11 : decode cX12_copies 11 = .ok (.iastore, 1) := by decide +kernel
theorem dX12_copies_12 : decode cX12_copies 12 = .ok (.iconst 0, 1) := by decide +kernel
theorem dX12_copies_13 : decode cX12_copies 13 = .ok (.istore_n 3, 1) := by decide +kernel
theorem dX12_copies_14 : decode cX12_copies 14 = .ok (.iload_n 3, 1) := by decide +kernel
theorem dX12_copies_15 : decode cX12_copies 15 = .ok (.bipush 12, 2) := by decide +kernel
theorem dX12_copies_17 : decode cX12_copies 17 = .ok (.if_icmp .ge 31, 3) := by decide +kernel
theorem dX12_copies_20 : decode cX12_copies 20 = .ok (.aload_n 0, 1) := by decide +kernel
theorem dX12_copies_21 : decode cX12_copies 21 = .ok (.getfield 176, 3) := by decide +kernel
theorem dX12_copies_24 : decode cX12_copies 24 = .ok (.bipush 12, 2) := by decide +kernel
theorem dX12_copies_26 : decode cX12_copies 26 = .ok (.iload_n 1, 1) := by decide +kernel
theorem dX12_copies_27 : decode cX12_copies 27 = .ok (.imul, 1) := by decide +kernel
theorem dX12_copies_28 : decode cX12_copies 28 = .ok (.iload_n 3, 1) := by decide +kernel
theorem dX12_copies_29 : decode cX12_copies 29 = .ok (.iadd, 1) := by decide +kernel
theorem dX12_copies_30 : decode cX12_copies 30 = .ok (.aload_n 0, 1) := by decide +kernel
theorem dX12_copies_31 : decode cX12_copies 31 = .ok (.getfield 176, 3) := by decide +kernel
theorem dX12_copies_34 : decode cX12_copies 34 = .ok (.bipush 12, 2) := by decide +kernel
theorem dX12_copies_36 : decode cX12_copies 36 = .ok (.iload_n 2, 1) := by decide +kernel
theorem dX12_copies_37 : decode cX12_copies 37 = .ok (.imul, 1) := by decide +kernel
theorem dX12_copies_38 : decode cX12_copies 38 = .ok (.iload_n 3, 1) := by decide +kernel
theorem dX12_copies_39 : decode cX12_copies 39 = .ok (.iadd, 1) := by decide +kernel
theorem dX12_copies_40 : decode cX12_copies 40 = .ok (.iaload, 1) := by decide +kernel
theorem dX12_copies_41 : decode cX12_copies 41 = .ok (.iastore, 1) := by decide +kernel
theorem dX12_copies_42 : decode cX12_copies 42 = .ok (.iinc 3 1, 3) := by decide +kernel
theorem dX12_copies_45 : decode cX12_copies 45 = .ok (.goto (-31), 3) := by decide +kernel
end
section
theorem dX12_copies_48 : decode cX12_copies 48 = .ok (.aload_n 0, 1) := by decide +kernel
theorem dX12_copies_49 : decode cX12_copies 49 = .ok (.getfield 179, 3) := by decide +kernel
theorem dX12_copies_52 : decode cX12_copies 52 = .ok (.iload_n 1, 1) := by decide +kernel
theorem dX12_copies_53 : decode cX12_copies 53 = .ok (.aload_n 0, 1) := by decide +kernel
theorem dX12_copies_54 : decode cX12_copies 54 = .ok (.getfield 179, 3) := by decide +kernel
theorem dX12_copies_57 : decode cX12_copies 57 = .ok (.iload_n 2, 1) := by decide +kernel
theorem dX12_copies_58 : decode cX12_copies 58 = .ok (.iaload, 1) := by decide +kernel
theorem dX12_copies_59 : decode cX12_copies 59 = .ok (.iastore, 1) := by decide +kernel
theorem dX12_copies_60 : decode cX12_copies 60 = .ok (.aload_n 0, 1) := by decide +kernel
theorem dX12_copies_61 : decode cX12_copies 61 = .ok (.getfield 182, 3) := by decide +kernel
theorem dX12_copies_64 : decode cX12_copies 64 = .ok (.iload_n 1, 1) := by decide +kernel
theorem dX12_copies_65 : decode cX12_copies 65 = .ok (.aload_n 0, 1) := by decide +kernel
theorem dX12_copies_66 : decode cX12_copies 66 = .ok (.getfield 182, 3) := by decide +kernel
theorem dX12_copies_69 : decode cX12_copies 69 = .ok (.iload_n 2, 1) := by decide +kernel
theorem dX12_copies_70 : decode cX12_copies 70 = .ok (.iaload, 1) := by decide +kernel
theorem dX12_copies_71 : decode cX12_copies 71 = .ok (.iastore, 1) := by decide +kernel
theorem dX12_copies_72 : decode cX12_copies 72 = .ok (.aload_n 0, 1) := by decide +kernel
theorem dX12_copies_73 : decode cX12_copies 73 = .ok (.getfield 185, 3) := by decide +kernel
theorem dX12_copies_76 : decode cX12_copies 76 = .ok (.iload_n 1, 1) := by decide +kernel
theorem dX12_copies_77 : decode cX12_copies 77 = .ok (.aload_n 0, 1) := by decide +kernel
theorem dX12_copies_78 : decode cX12_copies 78 = .ok (.getfield 185, 3) := by decide +kernel
theorem dX12_copies_81 : decode cX12_copies 81 = .ok (.iload_n 2, 1) := by decide +kernel
theorem dX12_copies_82 : decode cX12_copies 82 = .ok (.iaload, 1) := by decide +kernel
theorem dX12_copies_83 : decode cX12_copies 83 = .ok (.iastore, 1) := by decide +kernel
theorem dX12_copies_84 : decode cX12_copies 84 = .ok (.iconst 0, 1) := by decide +kernel
theorem dX12_copies_85 : decode cX12_copies 85 = .ok (.istore_n 3, 1) := by decide +kernel
theorem dX12_copies_86 : decode cX12_copies 86 = .ok (.iload_n 3, 1) := by decide +kernel
theorem dX12_copies_87 : decode cX12_copies 87 = .ok (.iconst 3, 1) := by decide +kernel
theorem dX12_copies_88 : decode cX12_copies 88 = .ok (.aload_n 0, 1) := by decide +kernel
theorem dX12_copies_89 : decode cX12_copies 89 = .ok (.getfield 185, 3) := by decide +kernel
theorem dX12_copies_92 : decode cX12_copies 92 = .ok (.iload_n 2, 1) := by decide +kernel
theorem dX12_copies_93 : decode cX12_copies 93 = .ok (.iaload, 1) := by decide +kernel
theorem dX12_copies_94 : decode cX12_copies 94 = .ok (.imul, 1) := by decide +kernel
theorem dX12_copies_95 : decode cX12_copies 95 = .ok (.if_icmp .ge 31, 3) := by decide +kernel
theorem dX12_copies_98 : decode cX12_copies 98 = .ok (.aload_n 0, 1) := by decide +kernel
theorem dX12_copies_99 : decode cX12_copies 99 = .ok (.getfield 188, 3) := by decide +kernel
theorem dX12_copies_102 : decode cX12_copies 102 = .ok (.bipush 120, 2) := by decide +kernel
theorem dX12_copies_104 : decode cX12_copies 104 = .ok (.iload_n 1, 1) := by decide +kernel
theorem dX12_copies_105 : decode cX12_copies 105 = .ok (.imul, 1) := by decide +kernel
theorem dX12_copies_106 : decode cX12_copies 106 = .ok (.iload_n 3, 1) := by decide +kernel
theorem dX12_copies_107 : decode cX12_copies 107 = .ok (.iadd, 1) := by decide +kernel
theorem dX12_copies_108 : decode cX12_copies 108 = .ok (.aload_n 0, 1) := by decide +kernel
theorem dX12_copies_109 : decode cX12_copies 109 = .ok (.getfield 188, 3) := by decide +kernel
theorem dX12_copies_112 : decode cX12_copies 112 = .ok (.bipush 120, 2) := by decide +kernel
theorem dX12_copies_114 : decode cX12_copies 114 = .ok (.iload_n 2, 1) := by decide +kernel
theorem dX12_copies_115 : decode cX12_copies 115 = .ok (.imul, 1) := by decide +kernel
theorem dX12_copies_116 : decode cX12_copies 116 = .ok (.iload_n 3, 1) := by decide +kernel
theorem dX12_copies_117 : decode cX12_copies 117 = .ok (.iadd, 1) := by decide +kernel
theorem dX12_copies_118 : decode cX12_copies 118 = .ok (.iaload, 1) := by decide +kernel
theorem dX12_copies_119 : decode cX12_copies 119 = .ok (.iastore, 1) := by decide +kernel
theorem dX12_copies_120 : decode cX12_copies 120 = .ok (.iinc 3 1, 3) := by decide +kernel
theorem dX12_copies_123 : decode cX12_copies 123 = .ok (.goto (-37), 3) := by decide +kernel
theorem dX12_copies_126 : decode cX12_copies 126 = .ok (.return_, 1) := by decide +kernel
theorem dX12_begin_0 : decode cX12_begin 0 = .ok (.aload_n 0, 1) := by decide +kernel
theorem dX12_begin_1 : decode cX12_begin 1 = .ok (.getfield 173, 3) := by decide +kernel
theorem dX12_begin_4 : decode cX12_begin 4 = .ok (.iconst 0, 1) := by decide +kernel
theorem dX12_begin_5 : decode cX12_begin 5 = .ok (.aload_n 0, 1) := by decide +kernel
theorem dX12_begin_6 : decode cX12_begin 6 = .ok (.getfield 87, 3) := by decide +kernel
theorem dX12_begin_9 : decode cX12_begin 9 = .ok (.aload_n 0, 1) := by decide +kernel
theorem dX12_begin_10 : decode cX12_begin 10 = .ok (.getfield 51, 3) := by decide +kernel
theorem dX12_begin_13 : decode cX12_begin 13 = .ok (.iaload, 1) := by decide +kernel
theorem dX12_begin_14 : decode cX12_begin 14 = .ok (.iastore, 1) := by decide +kernel
theorem dX12_begin_15 : decode cX12_begin 15 = .ok (.iconst 0, 1) := by decide +kernel
theorem dX12_begin_16 : decode cX12_begin 16 = .ok (.istore_n 1, 1) := by decide +kernel
theorem dX12_begin_17 : decode cX12_begin 17 = .ok (.iload_n 1, 1) := by decide +kernel
theorem dX12_begin_18 : decode cX12_begin 18 = .ok (.bipush 12, 2) := by decide +kernel
theorem dX12_begin_20 : decode cX12_begin 20 = .ok (.if_icmp .ge 16, 3) := by decide +kernel
theorem dX12_begin_23 : decode cX12_begin 23 = .ok (.aload_n 0, 1) := by decide +kernel
theorem dX12_begin_24 : decode cX12_begin 24 = .ok (.getfield 176, 3) := by decide +kernel
theorem dX12_begin_27 : decode cX12_begin 27 = .ok (.iload_n 1, 1) := by decide +kernel
theorem dX12_begin_28 : decode cX12_begin 28 = .ok (.iload_n 1, 1) := by decide +kernel
theorem dX12_begin_29 : decode cX12_begin 29 = .ok (.iastore, 1) := by decide +kernel
theorem dX12_begin_30 : decode cX12_begin 30 = .ok (.iinc 1 1, 3) := by decide +kernel
theorem dX12_begin_33 : decode cX12_begin 33 = .ok (.goto (-16), 3) := by decide +kernel
theorem dX12_begin_36 : decode cX12_begin 36 = .ok (.aload_n 0, 1) := by decide +kernel
theorem dX12_begin_37 : decode cX12_begin 37 = .ok (.getfield 179, 3) := by decide +kernel
theorem dX12_begin_40 : decode cX12_begin 40 = .ok (.iconst 0, 1) := by decide +kernel
theorem dX12_begin_41 : decode cX12_begin 41 = .ok (.aload_n 0, 1) := by decide +kernel
theorem dX12_begin_42 : decode cX12_begin 42 = .ok (.getfield 146, 3) := by decide +kernel
theorem dX12_begin_45 : decode cX12_begin 45 = .ok (.ifCond .eq 9, 3) := by decide +kernel
theorem dX12_begin_48 : decode cX12_begin 48 = .ok (.sipush 255, 3) := by decide +kernel
theorem dX12_begin_51 : decode cX12_begin 51 = .ok (.goto 4, 3) := by decide +kernel
theorem dX12_begin_54 : decode cX12_begin 54 = .ok (.iconst 0, 1) := by decide +kernel
theorem dX12_begin_55 : decode cX12_begin 55 = .ok (.iastore, 1) := by decide +kernel
theorem dX12_begin_56 : decode cX12_begin 56 = .ok (.aload_n 0, 1) := by decide +kernel
theorem dX12_begin_57 : decode cX12_begin 57 = .ok (.getfield 182, 3) := by decide +kernel
theorem dX12_begin_60 : decode cX12_begin 60 = .ok (.iconst 0, 1) := by decide +kernel
theorem dX12_begin_61 : decode cX12_begin 61 = .ok (.aload_n 0, 1) := by decide +kernel
theorem dX12_begin_62 : decode cX12_begin 62 = .ok (.getfield 93, 3) := by decide +kernel
theorem dX12_begin_65 : decode cX12_begin 65 = .ok (.aload_n 0, 1) := by decide +kernel
theorem dX12_begin_66 : decode cX12_begin 66 = .ok (.getfield 51, 3) := by decide +kernel
theorem dX12_begin_69 : decode cX12_begin 69 = .ok (.iaload, 1) := by decide +kernel
theorem dX12_begin_70 : decode cX12_begin 70 = .ok (.iastore, 1) := by decide +kernel
theorem dX12_begin_71 : decode cX12_begin 71 = .ok (.aload_n 0, 1) := by decide +kernel
theorem dX12_begin_72 : decode cX12_begin 72 = .ok (.getfield 185, 3) := by decide +kernel
theorem dX12_begin_75 : decode cX12_begin 75 = .ok (.iconst 0, 1) := by decide +kernel
theorem dX12_begin_76 : decode cX12_begin 76 = .ok (.iconst 0, 1) := by decide +kernel
theorem dX12_begin_77 : decode cX12_begin 77 = .ok (.iastore, 1) := by decide +kernel
theorem dX12_begin_78 : decode cX12_begin 78 = .ok (.aload_n 0, 1) := by decide +kernel
theorem dX12_begin_79 : decode cX12_begin 79 = .ok (.iconst 0, 1) := by decide +kernel
theorem dX12_begin_80 : decode cX12_begin 80 = .ok (.putfield 194, 3) := by decide +kernel
theorem dX12_begin_83 : decode cX12_begin 83 = .ok (.aload_n 0, 1) := by decide +kernel
theorem dX12_begin_84 : decode cX12_begin 84 = .ok (.iconst 0, 1) := by decide +kernel
theorem dX12_begin_85 : decode cX12_begin 85 = .ok (.putfield 291, 3) := by decide +kernel
theorem dX12_begin_88 : decode cX12_begin 88 = .ok (.return_, 1) := by decide +kernel
theorem dX12_slot_0 : decode cX12_slot 0 = .ok (.iconst 2, 1) := by decide +kernel
theorem dX12_slot_1 : decode cX12_slot 1 = .ok (.aload_n 0, 1) := by decide +kernel
theorem dX12_slot_2 : decode cX12_slot 2 = .ok (.getfield 191, 3) := by decide +kernel
theorem dX12_slot_5 : decode cX12_slot 5 = .ok (.iload_n 1, 1) := by decide +kernel
theorem dX12_slot_6 : decode cX12_slot 6 = .ok (.iadd, 1) := by decide +kernel
theorem dX12_slot_7 : decode cX12_slot 7 = .ok (.bipush 20, 2) := by decide +kernel
theorem dX12_slot_9 : decode cX12_slot 9 = .ok (.irem, 1) := by decide +kernel
theorem dX12_slot_10 : decode cX12_slot 10 = .ok (.iadd, 1) := by decide +kernel
theorem dX12_slot_11 : decode cX12_slot 11 = .ok (.ireturn, 1) := by decide +kernel
theorem dX12_keeps_0 : decode cX12_keeps 0 = .ok (.aload_n 0, 1) := by decide +kernel
theorem dX12_keeps_1 : decode cX12_keeps 1 = .ok (.getfield 194, 3) := by decide +kernel
theorem dX12_keeps_4 : decode cX12_keeps 4 = .ok (.bipush 20, 2) := by decide +kernel
theorem dX12_keeps_6 : decode cX12_keeps 6 = .ok (.if_icmp .ne 26, 3) := by decide +kernel
theorem dX12_keeps_9 : decode cX12_keeps 9 = .ok (.aload_n 0, 1) := by decide +kernel
theorem dX12_keeps_10 : decode cX12_keeps 10 = .ok (.aload_n 0, 1) := by decide +kernel
theorem dX12_keeps_11 : decode cX12_keeps 11 = .ok (.getfield 191, 3) := by decide +kernel
theorem dX12_keeps_14 : decode cX12_keeps 14 = .ok (.iconst 1, 1) := by decide +kernel
theorem dX12_keeps_15 : decode cX12_keeps 15 = .ok (.iadd, 1) := by decide +kernel
theorem dX12_keeps_16 : decode cX12_keeps 16 = .ok (.bipush 20, 2) := by decide +kernel
theorem dX12_keeps_18 : decode cX12_keeps 18 = .ok (.irem, 1) := by decide +kernel
theorem dX12_keeps_19 : decode cX12_keeps 19 = .ok (.putfield 191, 3) := by decide +kernel
theorem dX12_keeps_22 : decode cX12_keeps 22 = .ok (.aload_n 0, 1) := by decide +kernel
theorem dX12_keeps_23 : decode cX12_keeps 23 = .ok (.dup, 1) := by decide +kernel
theorem dX12_keeps_24 : decode cX12_keeps 24 = .ok (.getfield 194, 3) := by decide +kernel
theorem dX12_keeps_27 : decode cX12_keeps 27 = .ok (.iconst 1, 1) := by decide +kernel
theorem dX12_keeps_28 : decode cX12_keeps 28 = .ok (.isub, 1) := by decide +kernel
theorem dX12_keeps_29 : decode cX12_keeps 29 = .ok (.putfield 194, 3) := by decide +kernel
theorem dX12_keeps_32 : decode cX12_keeps 32 = .ok (.aload_n 0, 1) := by decide +kernel
theorem dX12_keeps_33 : decode cX12_keeps 33 = .ok (.aload_n 0, 1) := by decide +kernel
theorem dX12_keeps_34 : decode cX12_keeps 34 = .ok (.aload_n 0, 1) := by decide +kernel
theorem dX12_keeps_35 : decode cX12_keeps 35 = .ok (.getfield 194, 3) := by decide +kernel
theorem dX12_keeps_38 : decode cX12_keeps 38 = .ok (.invokevirtual 469, 3) := by decide +kernel
theorem dX12_keeps_41 : decode cX12_keeps 41 = .ok (.iconst 0, 1) := by decide +kernel
theorem dX12_keeps_42 : decode cX12_keeps 42 = .ok (.invokevirtual 472, 3) := by decide +kernel
theorem dX12_keeps_45 : decode cX12_keeps 45 = .ok (.aload_n 0, 1) := by decide +kernel
theorem dX12_keeps_46 : decode cX12_keeps 46 = .ok (.dup, 1) := by decide +kernel
theorem dX12_keeps_47 : decode cX12_keeps 47 = .ok (.getfield 194, 3) := by decide +kernel
theorem dX12_keeps_50 : decode cX12_keeps 50 = .ok (.iconst 1, 1) := by decide +kernel
theorem dX12_keeps_51 : decode cX12_keeps 51 = .ok (.iadd, 1) := by decide +kernel
theorem dX12_keeps_52 : decode cX12_keeps 52 = .ok (.putfield 194, 3) := by decide +kernel
theorem dX12_keeps_55 : decode cX12_keeps 55 = .ok (.return_, 1) := by decide +kernel
theorem dX12_undo_0 : decode cX12_undo 0 = .ok (.aload_n 0, 1) := by decide +kernel
theorem dX12_undo_1 : decode cX12_undo 1 = .ok (.getfield 194, 3) := by decide +kernel
theorem dX12_undo_4 : decode cX12_undo 4 = .ok (.ifCond .ne 17, 3) := by decide +kernel
theorem dX12_undo_7 : decode cX12_undo 7 = .ok (.aload_n 0, 1) := by decide +kernel
theorem dX12_undo_8 : decode cX12_undo 8 = .ok (.iconst 4, 1) := by decide +kernel
theorem dX12_undo_9 : decode cX12_undo 9 = .ok (.invokevirtual 312, 3) := by decide +kernel
theorem dX12_undo_12 : decode cX12_undo 12 = .ok (.ifCond .lt 7, 3) := by decide +kernel
theorem dX12_undo_19 : decode cX12_undo 19 = .ok (.iconst 0, 1) := by decide +kernel
theorem dX12_undo_20 : decode cX12_undo 20 = .ok (.ireturn, 1) := by decide +kernel
theorem dX12_undo_21 : decode cX12_undo 21 = .ok (.aload_n 0, 1) := by decide +kernel
theorem dX12_undo_22 : decode cX12_undo 22 = .ok (.dup, 1) := by decide +kernel
theorem dX12_undo_23 : decode cX12_undo 23 = .ok (.getfield 194, 3) := by decide +kernel
theorem dX12_undo_26 : decode cX12_undo 26 = .ok (.iconst 1, 1) := by decide +kernel
theorem dX12_undo_27 : decode cX12_undo 27 = .ok (.isub, 1) := by decide +kernel
theorem dX12_undo_28 : decode cX12_undo 28 = .ok (.putfield 194, 3) := by decide +kernel
theorem dX12_undo_31 : decode cX12_undo 31 = .ok (.aload_n 0, 1) := by decide +kernel
theorem dX12_undo_32 : decode cX12_undo 32 = .ok (.iconst 0, 1) := by decide +kernel
theorem dX12_undo_33 : decode cX12_undo 33 = .ok (.aload_n 0, 1) := by decide +kernel
theorem dX12_undo_34 : decode cX12_undo 34 = .ok (.aload_n 0, 1) := by decide +kernel
theorem dX12_undo_35 : decode cX12_undo 35 = .ok (.getfield 194, 3) := by decide +kernel
theorem dX12_undo_38 : decode cX12_undo 38 = .ok (.invokevirtual 469, 3) := by decide +kernel
theorem dX12_undo_41 : decode cX12_undo 41 = .ok (.invokevirtual 472, 3) := by decide +kernel
theorem dX12_undo_44 : decode cX12_undo 44 = .ok (.iconst 1, 1) := by decide +kernel
theorem dX12_undo_45 : decode cX12_undo 45 = .ok (.ireturn, 1) := by decide +kernel
theorem dX12_placed_0 : decode cX12_placed 0 = .ok (.iconst 0, 1) := by decide +kernel
theorem dX12_placed_1 : decode cX12_placed 1 = .ok (.istore_n 3, 1) := by decide +kernel
theorem dX12_placed_2 : decode cX12_placed 2 = .ok (.iconst 0, 1) := by decide +kernel
theorem dX12_placed_3 : decode cX12_placed 3 = .ok (.istore 4, 2) := by decide +kernel
theorem dX12_placed_5 : decode cX12_placed 5 = .ok (.iload 4, 2) := by decide +kernel
theorem dX12_placed_7 : decode cX12_placed 7 = .ok (.aload_n 0, 1) := by decide +kernel
theorem dX12_placed_8 : decode cX12_placed 8 = .ok (.getfield 200, 3) := by decide +kernel
theorem dX12_placed_11 : decode cX12_placed 11 = .ok (.if_icmp .ge 31, 3) := by decide +kernel
theorem dX12_placed_14 : decode cX12_placed 14 = .ok (.iload_n 3, 1) := by decide +kernel
theorem dX12_placed_15 : decode cX12_placed 15 = .ok (.iload_n 2, 1) := by decide +kernel
theorem dX12_placed_16 : decode cX12_placed 16 = .ok (.aload_n 0, 1) := by decide +kernel
theorem dX12_placed_17 : decode cX12_placed 17 = .ok (.getfield 176, 3) := by decide +kernel
theorem dX12_placed_20 : decode cX12_placed 20 = .ok (.bipush 12, 2) := by decide +kernel
theorem dX12_placed_22 : decode cX12_placed 22 = .ok (.iload_n 1, 1) := by decide +kernel
theorem dX12_placed_23 : decode cX12_placed 23 = .ok (.imul, 1) := by decide +kernel
theorem dX12_placed_24 : decode cX12_placed 24 = .ok (.iload 4, 2) := by decide +kernel
theorem dX12_placed_26 : decode cX12_placed 26 = .ok (.iadd, 1) := by decide +kernel
theorem dX12_placed_27 : decode cX12_placed 27 = .ok (.iaload, 1) := by decide +kernel
theorem dX12_placed_28 : decode cX12_placed 28 = .ok (.ishr, 1) := by decide +kernel
theorem dX12_placed_29 : decode cX12_placed 29 = .ok (.iconst 1, 1) := by decide +kernel
theorem dX12_placed_30 : decode cX12_placed 30 = .ok (.iand, 1) := by decide +kernel
theorem dX12_placed_31 : decode cX12_placed 31 = .ok (.iload 4, 2) := by decide +kernel
theorem dX12_placed_33 : decode cX12_placed 33 = .ok (.ishl, 1) := by decide +kernel
theorem dX12_placed_34 : decode cX12_placed 34 = .ok (.ior, 1) := by decide +kernel
theorem dX12_placed_35 : decode cX12_placed 35 = .ok (.istore_n 3, 1) := by decide +kernel
theorem dX12_placed_36 : decode cX12_placed 36 = .ok (.iinc 4 1, 3) := by decide +kernel
theorem dX12_placed_39 : decode cX12_placed 39 = .ok (.goto (-34), 3) := by decide +kernel
theorem dX12_placed_42 : decode cX12_placed 42 = .ok (.iload_n 3, 1) := by decide +kernel
theorem dX12_placed_43 : decode cX12_placed 43 = .ok (.ireturn, 1) := by decide +kernel
theorem dX12_arranges_0 : decode cX12_arranges 0 = .ok (.aload_n 0, 1) := by decide +kernel
theorem dX12_arranges_1 : decode cX12_arranges 1 = .ok (.aload_n 0, 1) := by decide +kernel
theorem dX12_arranges_2 : decode cX12_arranges 2 = .ok (.getfield 173, 3) := by decide +kernel
theorem dX12_arranges_5 : decode cX12_arranges 5 = .ok (.iload_n 1, 1) := by decide +kernel
theorem dX12_arranges_6 : decode cX12_arranges 6 = .ok (.iaload, 1) := by decide +kernel
theorem dX12_arranges_7 : decode cX12_arranges 7 = .ok (.putfield 200, 3) := by decide +kernel
theorem dX12_arranges_10 : decode cX12_arranges 10 = .ok (.aload_n 0, 1) := by decide +kernel
theorem dX12_arranges_11 : decode cX12_arranges 11 = .ok (.iconst 0, 1) := by decide +kernel
theorem dX12_arranges_12 : decode cX12_arranges 12 = .ok (.putfield 212, 3) := by decide +kernel
theorem dX12_arranges_15 : decode cX12_arranges 15 = .ok (.iconst 0, 1) := by decide +kernel
theorem dX12_arranges_16 : decode cX12_arranges 16 = .ok (.istore_n 2, 1) := by decide +kernel
theorem dX12_arranges_17 : decode cX12_arranges 17 = .ok (.iload_n 2, 1) := by decide +kernel
theorem dX12_arranges_18 : decode cX12_arranges 18 = .ok (.aload_n 0, 1) := by decide +kernel
theorem dX12_arranges_19 : decode cX12_arranges 19 = .ok (.getfield 200, 3) := by decide +kernel
theorem dX12_arranges_22 : decode cX12_arranges 22 = .ok (.if_icmp .ge 65, 3) := by decide +kernel
theorem dX12_arranges_25 : decode cX12_arranges 25 = .ok (.aload_n 0, 1) := by decide +kernel
theorem dX12_arranges_26 : decode cX12_arranges 26 = .ok (.getfield 209, 3) := by decide +kernel
theorem dX12_arranges_29 : decode cX12_arranges 29 = .ok (.iload_n 2, 1) := by decide +kernel
theorem dX12_arranges_30 : decode cX12_arranges 30 = .ok (.aload_n 0, 1) := by decide +kernel
theorem dX12_arranges_31 : decode cX12_arranges 31 = .ok (.getfield 90, 3) := by decide +kernel
theorem dX12_arranges_34 : decode cX12_arranges 34 = .ok (.bipush 12, 2) := by decide +kernel
theorem dX12_arranges_36 : decode cX12_arranges 36 = .ok (.aload_n 0, 1) := by decide +kernel
theorem dX12_arranges_37 : decode cX12_arranges 37 = .ok (.getfield 51, 3) := by decide +kernel
theorem dX12_arranges_40 : decode cX12_arranges 40 = .ok (.imul, 1) := by decide +kernel
theorem dX12_arranges_41 : decode cX12_arranges 41 = .ok (.aload_n 0, 1) := by decide +kernel
theorem dX12_arranges_42 : decode cX12_arranges 42 = .ok (.getfield 176, 3) := by decide +kernel
theorem dX12_arranges_45 : decode cX12_arranges 45 = .ok (.bipush 12, 2) := by decide +kernel
theorem dX12_arranges_47 : decode cX12_arranges 47 = .ok (.iload_n 1, 1) := by decide +kernel
theorem dX12_arranges_48 : decode cX12_arranges 48 = .ok (.imul, 1) := by decide +kernel
theorem dX12_arranges_49 : decode cX12_arranges 49 = .ok (.iload_n 2, 1) := by decide +kernel
theorem dX12_arranges_50 : decode cX12_arranges 50 = .ok (.iadd, 1) := by decide +kernel
theorem dX12_arranges_51 : decode cX12_arranges 51 = .ok (.iaload, 1) := by decide +kernel
theorem dX12_arranges_52 : decode cX12_arranges 52 = .ok (.iadd, 1) := by decide +kernel
theorem dX12_arranges_53 : decode cX12_arranges 53 = .ok (.iaload, 1) := by decide +kernel
theorem dX12_arranges_54 : decode cX12_arranges 54 = .ok (.iastore, 1) := by decide +kernel
theorem dX12_arranges_55 : decode cX12_arranges 55 = .ok (.aload_n 0, 1) := by decide +kernel
theorem dX12_arranges_56 : decode cX12_arranges 56 = .ok (.dup, 1) := by decide +kernel
theorem dX12_arranges_57 : decode cX12_arranges 57 = .ok (.getfield 212, 3) := by decide +kernel
theorem dX12_arranges_60 : decode cX12_arranges 60 = .ok (.aload_n 0, 1) := by decide +kernel
theorem dX12_arranges_61 : decode cX12_arranges 61 = .ok (.getfield 209, 3) := by decide +kernel
theorem dX12_arranges_64 : decode cX12_arranges 64 = .ok (.iload_n 2, 1) := by decide +kernel
theorem dX12_arranges_65 : decode cX12_arranges 65 = .ok (.iaload, 1) := by decide +kernel
theorem dX12_arranges_66 : decode cX12_arranges 66 = .ok (.iconst (-1), 1) := by decide +kernel
theorem dX12_arranges_67 : decode cX12_arranges 67 = .ok (.if_icmp .ne 9, 3) := by decide +kernel
theorem dX12_arranges_70 : decode cX12_arranges 70 = .ok (.iconst 1, 1) := by decide +kernel
theorem dX12_arranges_71 : decode cX12_arranges 71 = .ok (.iload_n 2, 1) := by decide +kernel
theorem dX12_arranges_72 : decode cX12_arranges 72 = .ok (.ishl, 1) := by decide +kernel
theorem dX12_arranges_73 : decode cX12_arranges 73 = .ok (.goto 4, 3) := by decide +kernel
theorem dX12_arranges_76 : decode cX12_arranges 76 = .ok (.iconst 0, 1) := by decide +kernel
theorem dX12_arranges_77 : decode cX12_arranges 77 = .ok (.ior, 1) := by decide +kernel
theorem dX12_arranges_78 : decode cX12_arranges 78 = .ok (.putfield 212, 3) := by decide +kernel
theorem dX12_arranges_81 : decode cX12_arranges 81 = .ok (.iinc 2 1, 3) := by decide +kernel
theorem dX12_arranges_84 : decode cX12_arranges 84 = .ok (.goto (-67), 3) := by decide +kernel
theorem dX12_arranges_87 : decode cX12_arranges 87 = .ok (.iconst 0, 1) := by decide +kernel
theorem dX12_arranges_88 : decode cX12_arranges 88 = .ok (.istore_n 2, 1) := by decide +kernel
theorem dX12_arranges_89 : decode cX12_arranges 89 = .ok (.iload_n 2, 1) := by decide +kernel
theorem dX12_arranges_90 : decode cX12_arranges 90 = .ok (.aload_n 0, 1) := by decide +kernel
theorem dX12_arranges_91 : decode cX12_arranges 91 = .ok (.invokevirtual 459, 3) := by decide +kernel
theorem dX12_arranges_94 : decode cX12_arranges 94 = .ok (.if_icmp .ge 91, 3) := by decide +kernel
theorem dX12_arranges_97 : decode cX12_arranges 97 = .ok (.aload_n 0, 1) := by decide +kernel
theorem dX12_arranges_98 : decode cX12_arranges 98 = .ok (.getfield 206, 3) := by decide +kernel
theorem dX12_arranges_101 : decode cX12_arranges 101 = .ok (.iload_n 2, 1) := by decide +kernel
theorem dX12_arranges_102 : decode cX12_arranges 102 = .ok (.iconst 1, 1) := by decide +kernel
theorem dX12_arranges_103 : decode cX12_arranges 103 = .ok (.aload_n 0, 1) := by decide +kernel
theorem dX12_arranges_104 : decode cX12_arranges 104 = .ok (.getfield 200, 3) := by decide +kernel
theorem dX12_arranges_107 : decode cX12_arranges 107 = .ok (.ishl, 1) := by decide +kernel
theorem dX12_arranges_108 : decode cX12_arranges 108 = .ok (.iconst 1, 1) := by decide +kernel
theorem dX12_arranges_109 : decode cX12_arranges 109 = .ok (.isub, 1) := by decide +kernel
theorem dX12_arranges_110 : decode cX12_arranges 110 = .ok (.iastore, 1) := by decide +kernel
theorem dX12_arranges_111 : decode cX12_arranges 111 = .ok (.iconst 0, 1) := by decide +kernel
theorem dX12_arranges_112 : decode cX12_arranges 112 = .ok (.istore_n 3, 1) := by decide +kernel
theorem dX12_arranges_113 : decode cX12_arranges 113 = .ok (.iload_n 3, 1) := by decide +kernel
theorem dX12_arranges_114 : decode cX12_arranges 114 = .ok (.aload_n 0, 1) := by decide +kernel
theorem dX12_arranges_115 : decode cX12_arranges 115 = .ok (.getfield 164, 3) := by decide +kernel
theorem dX12_arranges_118 : decode cX12_arranges 118 = .ok (.iload_n 2, 1) := by decide +kernel
theorem dX12_arranges_119 : decode cX12_arranges 119 = .ok (.iaload, 1) := by decide +kernel
theorem dX12_arranges_120 : decode cX12_arranges 120 = .ok (.if_icmp .ge 59, 3) := by decide +kernel
theorem dX12_arranges_123 : decode cX12_arranges 123 = .ok (.aload_n 0, 1) := by decide +kernel
theorem dX12_arranges_124 : decode cX12_arranges 124 = .ok (.getfield 203, 3) := by decide +kernel
theorem dX12_arranges_127 : decode cX12_arranges 127 = .ok (.sipush 2010, 3) := by decide +kernel
theorem dX12_arranges_130 : decode cX12_arranges 130 = .ok (.iload_n 2, 1) := by decide +kernel
theorem dX12_arranges_131 : decode cX12_arranges 131 = .ok (.imul, 1) := by decide +kernel
theorem dX12_arranges_132 : decode cX12_arranges 132 = .ok (.iload_n 3, 1) := by decide +kernel
theorem dX12_arranges_133 : decode cX12_arranges 133 = .ok (.iadd, 1) := by decide +kernel
theorem dX12_arranges_134 : decode cX12_arranges 134 = .ok (.aload_n 0, 1) := by decide +kernel
theorem dX12_arranges_135 : decode cX12_arranges 135 = .ok (.iload_n 1, 1) := by decide +kernel
theorem dX12_arranges_136 : decode cX12_arranges 136 = .ok (.aload_n 0, 1) := by decide +kernel
theorem dX12_arranges_137 : decode cX12_arranges 137 = .ok (.getfield 161, 3) := by decide +kernel
theorem dX12_arranges_140 : decode cX12_arranges 140 = .ok (.sipush 2010, 3) := by decide +kernel
theorem dX12_arranges_143 : decode cX12_arranges 143 = .ok (.iload_n 2, 1) := by decide +kernel
theorem dX12_arranges_144 : decode cX12_arranges 144 = .ok (.imul, 1) := by decide +kernel
theorem dX12_arranges_145 : decode cX12_arranges 145 = .ok (.iload_n 3, 1) := by decide +kernel
theorem dX12_arranges_146 : decode cX12_arranges 146 = .ok (.iadd, 1) := by decide +kernel
theorem dX12_arranges_147 : decode cX12_arranges 147 = .ok (.iaload, 1) := by decide +kernel
theorem dX12_arranges_148 : decode cX12_arranges 148 = .ok (.invokevirtual 475, 3) := by decide +kernel
theorem dX12_arranges_151 : decode cX12_arranges 151 = .ok (.iastore, 1) := by decide +kernel
theorem dX12_arranges_152 : decode cX12_arranges 152 = .ok (.aload_n 0, 1) := by decide +kernel
theorem dX12_arranges_153 : decode cX12_arranges 153 = .ok (.getfield 206, 3) := by decide +kernel
theorem dX12_arranges_156 : decode cX12_arranges 156 = .ok (.iload_n 2, 1) := by decide +kernel
theorem dX12_arranges_157 : decode cX12_arranges 157 = .ok (.dup2, 1) := by decide +kernel
theorem dX12_arranges_158 : decode cX12_arranges 158 = .ok (.iaload, 1) := by decide +kernel
theorem dX12_arranges_159 : decode cX12_arranges 159 = .ok (.aload_n 0, 1) := by decide +kernel
theorem dX12_arranges_160 : decode cX12_arranges 160 = .ok (.getfield 203, 3) := by decide +kernel
theorem dX12_arranges_163 : decode cX12_arranges 163 = .ok (.sipush 2010, 3) := by decide +kernel
theorem dX12_arranges_166 : decode cX12_arranges 166 = .ok (.iload_n 2, 1) := by decide +kernel
theorem dX12_arranges_167 : decode cX12_arranges 167 = .ok (.imul, 1) := by decide +kernel
theorem dX12_arranges_168 : decode cX12_arranges 168 = .ok (.iload_n 3, 1) := by decide +kernel
theorem dX12_arranges_169 : decode cX12_arranges 169 = .ok (.iadd, 1) := by decide +kernel
theorem dX12_arranges_170 : decode cX12_arranges 170 = .ok (.iaload, 1) := by decide +kernel
theorem dX12_arranges_171 : decode cX12_arranges 171 = .ok (.iand, 1) := by decide +kernel
theorem dX12_arranges_172 : decode cX12_arranges 172 = .ok (.iastore, 1) := by decide +kernel
theorem dX12_arranges_173 : decode cX12_arranges 173 = .ok (.iinc 3 1, 3) := by decide +kernel
theorem dX12_arranges_176 : decode cX12_arranges 176 = .ok (.goto (-63), 3) := by decide +kernel
theorem dX12_arranges_179 : decode cX12_arranges 179 = .ok (.iinc 2 1, 3) := by decide +kernel
theorem dX12_arranges_182 : decode cX12_arranges 182 = .ok (.goto (-93), 3) := by decide +kernel
theorem dX12_arranges_185 : decode cX12_arranges 185 = .ok (.aload_n 0, 1) := by decide +kernel
theorem dX12_arranges_186 : decode cX12_arranges 186 = .ok (.dup, 1) := by decide +kernel
theorem dX12_arranges_187 : decode cX12_arranges 187 = .ok (.getfield 236, 3) := by decide +kernel
theorem dX12_arranges_190 : decode cX12_arranges 190 = .ok (.iconst 1, 1) := by decide +kernel
theorem dX12_arranges_191 : decode cX12_arranges 191 = .ok (.iadd, 1) := by decide +kernel
theorem dX12_arranges_192 : decode cX12_arranges 192 = .ok (.putfield 236, 3) := by decide +kernel
theorem dX12_arranges_195 : decode cX12_arranges 195 = .ok (.return_, 1) := by decide +kernel
theorem dX12_openBy_0 : decode cX12_openBy 0 = .ok (.aload_n 0, 1) := by decide +kernel
theorem dX12_openBy_1 : decode cX12_openBy 1 = .ok (.getfield 212, 3) := by decide +kernel
theorem dX12_openBy_4 : decode cX12_openBy 4 = .ok (.istore_n 2, 1) := by decide +kernel
theorem dX12_openBy_5 : decode cX12_openBy 5 = .ok (.iconst 0, 1) := by decide +kernel
theorem dX12_openBy_6 : decode cX12_openBy 6 = .ok (.istore_n 3, 1) := by decide +kernel
theorem dX12_openBy_7 : decode cX12_openBy 7 = .ok (.iload_n 3, 1) := by decide +kernel
theorem dX12_openBy_8 : decode cX12_openBy 8 = .ok (.aload_n 0, 1) := by decide +kernel
theorem dX12_openBy_9 : decode cX12_openBy 9 = .ok (.getfield 200, 3) := by decide +kernel
theorem dX12_openBy_12 : decode cX12_openBy 12 = .ok (.if_icmp .ge 43, 3) := by decide +kernel
theorem dX12_openBy_15 : decode cX12_openBy 15 = .ok (.iload_n 2, 1) := by decide +kernel
theorem dX12_openBy_16 : decode cX12_openBy 16 = .ok (.aload_n 0, 1) := by decide +kernel
theorem dX12_openBy_17 : decode cX12_openBy 17 = .ok (.getfield 209, 3) := by decide +kernel
theorem dX12_openBy_20 : decode cX12_openBy 20 = .ok (.iload_n 3, 1) := by decide +kernel
theorem dX12_openBy_21 : decode cX12_openBy 21 = .ok (.iaload, 1) := by decide +kernel
theorem dX12_openBy_22 : decode cX12_openBy 22 = .ok (.iconst (-1), 1) := by decide +kernel
theorem dX12_openBy_23 : decode cX12_openBy 23 = .ok (.if_icmp .eq 23, 3) := by decide +kernel
theorem dX12_openBy_26 : decode cX12_openBy 26 = .ok (.iload_n 1, 1) := by decide +kernel
theorem dX12_openBy_27 : decode cX12_openBy 27 = .ok (.aload_n 0, 1) := by decide +kernel
theorem dX12_openBy_28 : decode cX12_openBy 28 = .ok (.getfield 209, 3) := by decide +kernel
theorem dX12_openBy_31 : decode cX12_openBy 31 = .ok (.iload_n 3, 1) := by decide +kernel
theorem dX12_openBy_32 : decode cX12_openBy 32 = .ok (.iaload, 1) := by decide +kernel
theorem dX12_openBy_33 : decode cX12_openBy 33 = .ok (.ishr, 1) := by decide +kernel
theorem dX12_openBy_34 : decode cX12_openBy 34 = .ok (.iconst 1, 1) := by decide +kernel
theorem dX12_openBy_35 : decode cX12_openBy 35 = .ok (.iand, 1) := by decide +kernel
theorem dX12_openBy_36 : decode cX12_openBy 36 = .ok (.iconst 1, 1) := by decide +kernel
theorem dX12_openBy_37 : decode cX12_openBy 37 = .ok (.if_icmp .ne 9, 3) := by decide +kernel
theorem dX12_openBy_40 : decode cX12_openBy 40 = .ok (.iconst 1, 1) := by decide +kernel
theorem dX12_openBy_41 : decode cX12_openBy 41 = .ok (.iload_n 3, 1) := by decide +kernel
theorem dX12_openBy_42 : decode cX12_openBy 42 = .ok (.ishl, 1) := by decide +kernel
theorem dX12_openBy_43 : decode cX12_openBy 43 = .ok (.goto 4, 3) := by decide +kernel
theorem dX12_openBy_46 : decode cX12_openBy 46 = .ok (.iconst 0, 1) := by decide +kernel
theorem dX12_openBy_47 : decode cX12_openBy 47 = .ok (.ior, 1) := by decide +kernel
theorem dX12_openBy_48 : decode cX12_openBy 48 = .ok (.istore_n 2, 1) := by decide +kernel
theorem dX12_openBy_49 : decode cX12_openBy 49 = .ok (.iinc 3 1, 3) := by decide +kernel
theorem dX12_openBy_52 : decode cX12_openBy 52 = .ok (.goto (-45), 3) := by decide +kernel
theorem dX12_openBy_55 : decode cX12_openBy 55 = .ok (.iload_n 2, 1) := by decide +kernel
theorem dX12_openBy_56 : decode cX12_openBy 56 = .ok (.ireturn, 1) := by decide +kernel
theorem dX12_lowest_0 : decode cX12_lowest 0 = .ok (.iload_n 0, 1) := by decide +kernel
theorem dX12_lowest_1 : decode cX12_lowest 1 = .ok (.ifCond .ne 5, 3) := by decide +kernel
theorem dX12_lowest_4 : decode cX12_lowest 4 = .ok (.iconst (-1), 1) := by decide +kernel
theorem dX12_lowest_5 : decode cX12_lowest 5 = .ok (.ireturn, 1) := by decide +kernel
theorem dX12_lowest_6 : decode cX12_lowest 6 = .ok (.iconst 0, 1) := by decide +kernel
theorem dX12_lowest_7 : decode cX12_lowest 7 = .ok (.istore_n 1, 1) := by decide +kernel
theorem dX12_lowest_8 : decode cX12_lowest 8 = .ok (.iload_n 0, 1) := by decide +kernel
theorem dX12_lowest_9 : decode cX12_lowest 9 = .ok (.iload_n 1, 1) := by decide +kernel
theorem dX12_lowest_10 : decode cX12_lowest 10 = .ok (.ishr, 1) := by decide +kernel
theorem dX12_lowest_11 : decode cX12_lowest 11 = .ok (.iconst 1, 1) := by decide +kernel
theorem dX12_lowest_12 : decode cX12_lowest 12 = .ok (.iand, 1) := by decide +kernel
theorem dX12_lowest_13 : decode cX12_lowest 13 = .ok (.ifCond .ne 9, 3) := by decide +kernel
theorem dX12_lowest_16 : decode cX12_lowest 16 = .ok (.iinc 1 1, 3) := by decide +kernel
theorem dX12_lowest_19 : decode cX12_lowest 19 = .ok (.goto (-11), 3) := by decide +kernel
theorem dX12_lowest_22 : decode cX12_lowest 22 = .ok (.iload_n 1, 1) := by decide +kernel
theorem dX12_lowest_23 : decode cX12_lowest 23 = .ok (.ireturn, 1) := by decide +kernel
theorem dX12_bitsOf_0 : decode cX12_bitsOf 0 = .ok (.iconst 0, 1) := by decide +kernel
theorem dX12_bitsOf_1 : decode cX12_bitsOf 1 = .ok (.istore_n 1, 1) := by decide +kernel
theorem dX12_bitsOf_2 : decode cX12_bitsOf 2 = .ok (.iload_n 0, 1) := by decide +kernel
theorem dX12_bitsOf_3 : decode cX12_bitsOf 3 = .ok (.istore_n 2, 1) := by decide +kernel
theorem dX12_bitsOf_4 : decode cX12_bitsOf 4 = .ok (.iload_n 2, 1) := by decide +kernel
theorem dX12_bitsOf_5 : decode cX12_bitsOf 5 = .ok (.ifCond .le 16, 3) := by decide +kernel
theorem dX12_bitsOf_8 : decode cX12_bitsOf 8 = .ok (.iload_n 1, 1) := by decide +kernel
theorem dX12_bitsOf_9 : decode cX12_bitsOf 9 = .ok (.iload_n 2, 1) := by decide +kernel
theorem dX12_bitsOf_10 : decode cX12_bitsOf 10 = .ok (.iconst 1, 1) := by decide +kernel
theorem dX12_bitsOf_11 : decode cX12_bitsOf 11 = .ok (.iand, 1) := by decide +kernel
theorem dX12_bitsOf_12 : decode cX12_bitsOf 12 = .ok (.iadd, 1) := by decide +kernel
theorem dX12_bitsOf_13 : decode cX12_bitsOf 13 = .ok (.istore_n 1, 1) := by decide +kernel
theorem dX12_bitsOf_14 : decode cX12_bitsOf 14 = .ok (.iload_n 2, 1) := by decide +kernel
theorem dX12_bitsOf_15 : decode cX12_bitsOf 15 = .ok (.iconst 1, 1) := by decide +kernel
theorem dX12_bitsOf_16 : decode cX12_bitsOf 16 = .ok (.ishr, 1) := by decide +kernel
theorem dX12_bitsOf_17 : decode cX12_bitsOf 17 = .ok (.istore_n 2, 1) := by decide +kernel
theorem dX12_bitsOf_18 : decode cX12_bitsOf 18 = .ok (.goto (-14), 3) := by decide +kernel
theorem dX12_bitsOf_21 : decode cX12_bitsOf 21 = .ok (.iload_n 1, 1) := by decide +kernel
theorem dX12_bitsOf_22 : decode cX12_bitsOf 22 = .ok (.ireturn, 1) := by decide +kernel
theorem dX12_valuesIn_0 : decode cX12_valuesIn 0 = .ok (.iload_n 1, 1) := by decide +kernel
theorem dX12_valuesIn_1 : decode cX12_valuesIn 1 = .ok (.istore_n 2, 1) := by decide +kernel
theorem dX12_valuesIn_2 : decode cX12_valuesIn 2 = .ok (.aload_n 0, 1) := by decide +kernel
theorem dX12_valuesIn_3 : decode cX12_valuesIn 3 = .ok (.invokevirtual 459, 3) := by decide +kernel
theorem dX12_valuesIn_6 : decode cX12_valuesIn 6 = .ok (.iconst 1, 1) := by decide +kernel
theorem dX12_valuesIn_7 : decode cX12_valuesIn 7 = .ok (.isub, 1) := by decide +kernel
theorem dX12_valuesIn_8 : decode cX12_valuesIn 8 = .ok (.istore_n 3, 1) := by decide +kernel
theorem dX12_valuesIn_9 : decode cX12_valuesIn 9 = .ok (.iload_n 3, 1) := by decide +kernel
theorem dX12_valuesIn_10 : decode cX12_valuesIn 10 = .ok (.ifCond .lt 30, 3) := by decide +kernel
theorem dX12_valuesIn_13 : decode cX12_valuesIn 13 = .ok (.aload_n 0, 1) := by decide +kernel
theorem dX12_valuesIn_14 : decode cX12_valuesIn 14 = .ok (.getfield 215, 3) := by decide +kernel
theorem dX12_valuesIn_17 : decode cX12_valuesIn 17 = .ok (.iload_n 3, 1) := by decide +kernel
theorem dX12_valuesIn_18 : decode cX12_valuesIn 18 = .ok (.iload_n 2, 1) := by decide +kernel
theorem dX12_valuesIn_19 : decode cX12_valuesIn 19 = .ok (.aload_n 0, 1) := by decide +kernel
theorem dX12_valuesIn_20 : decode cX12_valuesIn 20 = .ok (.iload_n 3, 1) := by decide +kernel
theorem dX12_valuesIn_21 : decode cX12_valuesIn 21 = .ok (.invokevirtual 463, 3) := by decide +kernel
theorem dX12_valuesIn_24 : decode cX12_valuesIn 24 = .ok (.irem, 1) := by decide +kernel
theorem dX12_valuesIn_25 : decode cX12_valuesIn 25 = .ok (.iastore, 1) := by decide +kernel
theorem dX12_valuesIn_26 : decode cX12_valuesIn 26 = .ok (.iload_n 2, 1) := by decide +kernel
theorem dX12_valuesIn_27 : decode cX12_valuesIn 27 = .ok (.aload_n 0, 1) := by decide +kernel
theorem dX12_valuesIn_28 : decode cX12_valuesIn 28 = .ok (.iload_n 3, 1) := by decide +kernel
theorem dX12_valuesIn_29 : decode cX12_valuesIn 29 = .ok (.invokevirtual 463, 3) := by decide +kernel
theorem dX12_valuesIn_32 : decode cX12_valuesIn 32 = .ok (.idiv, 1) := by decide +kernel
theorem dX12_valuesIn_33 : decode cX12_valuesIn 33 = .ok (.istore_n 2, 1) := by decide +kernel
theorem dX12_valuesIn_34 : decode cX12_valuesIn 34 = .ok (.iinc 3 (-1), 3) := by decide +kernel
theorem dX12_valuesIn_37 : decode cX12_valuesIn 37 = .ok (.goto (-28), 3) := by decide +kernel
theorem dX12_valuesIn_40 : decode cX12_valuesIn 40 = .ok (.return_, 1) := by decide +kernel
theorem dX12_setIn_0 : decode cX12_setIn 0 = .ok (.aload_n 0, 1) := by decide +kernel
theorem dX12_setIn_1 : decode cX12_setIn 1 = .ok (.getfield 203, 3) := by decide +kernel
theorem dX12_setIn_4 : decode cX12_setIn 4 = .ok (.sipush 2010, 3) := by decide +kernel
theorem dX12_setIn_7 : decode cX12_setIn 7 = .ok (.iload_n 1, 1) := by decide +kernel
theorem dX12_setIn_8 : decode cX12_setIn 8 = .ok (.imul, 1) := by decide +kernel
theorem dX12_setIn_9 : decode cX12_setIn 9 = .ok (.aload_n 0, 1) := by decide +kernel
theorem dX12_setIn_10 : decode cX12_setIn 10 = .ok (.getfield 158, 3) := by decide +kernel
theorem dX12_setIn_13 : decode cX12_setIn 13 = .ok (.sipush 2010, 3) := by decide +kernel
end
