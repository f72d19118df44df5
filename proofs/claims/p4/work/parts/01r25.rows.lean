theorem dX12_weighs_76 : decode cX12_weighs 76 = .ok (.iload_n 2, 1) := by decide +kernel
theorem dX12_weighs_77 : decode cX12_weighs 77 = .ok (.iaload, 1) := by decide +kernel
theorem dX12_weighs_78 : decode cX12_weighs 78 = .ok (.if_icmp .ge 106, 3) := by decide +kernel
theorem dX12_weighs_81 : decode cX12_weighs 81 = .ok (.aload_n 0, 1) := by decide +kernel
theorem dX12_weighs_82 : decode cX12_weighs 82 = .ok (.iload_n 1, 1) := by decide +kernel
theorem dX12_weighs_83 : decode cX12_weighs 83 = .ok (.iload_n 2, 1) := by decide +kernel
theorem dX12_weighs_84 : decode cX12_weighs 84 = .ok (.aload_n 0, 1) := by decide +kernel
theorem dX12_weighs_85 : decode cX12_weighs 85 = .ok (.getfield 203, 3) := by decide +kernel
theorem dX12_weighs_88 : decode cX12_weighs 88 = .ok (.sipush 2010, 3) := by decide +kernel
theorem dX12_weighs_91 : decode cX12_weighs 91 = .ok (.iload_n 2, 1) := by decide +kernel
theorem dX12_weighs_92 : decode cX12_weighs 92 = .ok (.imul, 1) := by decide +kernel
theorem dX12_weighs_93 : decode cX12_weighs 93 = .ok (.iload 5, 2) := by decide +kernel
theorem dX12_weighs_95 : decode cX12_weighs 95 = .ok (.iadd, 1) := by decide +kernel
theorem dX12_weighs_96 : decode cX12_weighs 96 = .ok (.iaload, 1) := by decide +kernel
theorem dX12_weighs_97 : decode cX12_weighs 97 = .ok (.invokevirtual 568, 3) := by decide +kernel
theorem dX12_weighs_100 : decode cX12_weighs 100 = .ok (.istore 6, 2) := by decide +kernel
theorem dX12_weighs_102 : decode cX12_weighs 102 = .ok (.aload_n 0, 1) := by decide +kernel
theorem dX12_weighs_103 : decode cX12_weighs 103 = .ok (.getfield 246, 3) := by decide +kernel
theorem dX12_weighs_106 : decode cX12_weighs 106 = .ok (.iload 6, 2) := by decide +kernel
theorem dX12_weighs_108 : decode cX12_weighs 108 = .ok (.invokestatic 547, 3) := by decide +kernel
theorem dX12_weighs_111 : decode cX12_weighs 111 = .ok (.iaload, 1) := by decide +kernel
theorem dX12_weighs_112 : decode cX12_weighs 112 = .ok (.aload_n 0, 1) := by decide +kernel
theorem dX12_weighs_113 : decode cX12_weighs 113 = .ok (.getfield 249, 3) := by decide +kernel
theorem dX12_weighs_116 : decode cX12_weighs 116 = .ok (.if_icmp .ne 6, 3) := by decide +kernel
theorem dX12_weighs_119 : decode cX12_weighs 119 = .ok (.goto 59, 3) := by decide +kernel
theorem dX12_weighs_122 : decode cX12_weighs 122 = .ok (.aload_n 0, 1) := by decide +kernel
theorem dX12_weighs_123 : decode cX12_weighs 123 = .ok (.getfield 246, 3) := by decide +kernel
theorem dX12_weighs_126 : decode cX12_weighs 126 = .ok (.iload 6, 2) := by decide +kernel
theorem dX12_weighs_128 : decode cX12_weighs 128 = .ok (.invokestatic 547, 3) := by decide +kernel
theorem dX12_weighs_131 : decode cX12_weighs 131 = .ok (.aload_n 0, 1) := by decide +kernel
theorem dX12_weighs_132 : decode cX12_weighs 132 = .ok (.getfield 249, 3) := by decide +kernel
theorem dX12_weighs_135 : decode cX12_weighs 135 = .ok (.iastore, 1) := by decide +kernel
theorem dX12_weighs_136 : decode cX12_weighs 136 = .ok (.iload_n 3, 1) := by decide +kernel
theorem dX12_weighs_137 : decode cX12_weighs 137 = .ok (.aload_n 0, 1) := by decide +kernel
theorem dX12_weighs_138 : decode cX12_weighs 138 = .ok (.getfield 261, 3) := by decide +kernel
theorem dX12_weighs_141 : decode cX12_weighs 141 = .ok (.iload 6, 2) := by decide +kernel
theorem dX12_weighs_143 : decode cX12_weighs 143 = .ok (.iaload, 1) := by decide +kernel
theorem dX12_weighs_144 : decode cX12_weighs 144 = .ok (.iconst 3, 1) := by decide +kernel
theorem dX12_weighs_145 : decode cX12_weighs 145 = .ok (.ishr, 1) := by decide +kernel
theorem dX12_weighs_146 : decode cX12_weighs 146 = .ok (.iadd, 1) := by decide +kernel
theorem dX12_weighs_147 : decode cX12_weighs 147 = .ok (.istore_n 3, 1) := by decide +kernel
theorem dX12_weighs_148 : decode cX12_weighs 148 = .ok (.aload_n 0, 1) := by decide +kernel
theorem dX12_weighs_149 : decode cX12_weighs 149 = .ok (.getfield 261, 3) := by decide +kernel
theorem dX12_weighs_152 : decode cX12_weighs 152 = .ok (.iload 6, 2) := by decide +kernel
theorem dX12_weighs_154 : decode cX12_weighs 154 = .ok (.iaload, 1) := by decide +kernel
theorem dX12_weighs_155 : decode cX12_weighs 155 = .ok (.bipush 7, 2) := by decide +kernel
theorem dX12_weighs_157 : decode cX12_weighs 157 = .ok (.iand, 1) := by decide +kernel
theorem dX12_weighs_158 : decode cX12_weighs 158 = .ok (.iconst 1, 1) := by decide +kernel
theorem dX12_weighs_159 : decode cX12_weighs 159 = .ok (.iadd, 1) := by decide +kernel
theorem dX12_weighs_160 : decode cX12_weighs 160 = .ok (.istore 7, 2) := by decide +kernel
theorem dX12_weighs_162 : decode cX12_weighs 162 = .ok (.iload 7, 2) := by decide +kernel
theorem dX12_weighs_164 : decode cX12_weighs 164 = .ok (.iload 4, 2) := by decide +kernel
theorem dX12_weighs_166 : decode cX12_weighs 166 = .ok (.if_icmp .le 8, 3) := by decide +kernel
theorem dX12_weighs_169 : decode cX12_weighs 169 = .ok (.iload 7, 2) := by decide +kernel
theorem dX12_weighs_171 : decode cX12_weighs 171 = .ok (.goto 5, 3) := by decide +kernel
theorem dX12_weighs_174 : decode cX12_weighs 174 = .ok (.iload 4, 2) := by decide +kernel
theorem dX12_weighs_176 : decode cX12_weighs 176 = .ok (.istore 4, 2) := by decide +kernel
theorem dX12_weighs_178 : decode cX12_weighs 178 = .ok (.iinc 5 1, 3) := by decide +kernel
theorem dX12_weighs_181 : decode cX12_weighs 181 = .ok (.goto (-116), 3) := by decide +kernel
theorem dX12_weighs_184 : decode cX12_weighs 184 = .ok (.aload_n 0, 1) := by decide +kernel
theorem dX12_weighs_185 : decode cX12_weighs 185 = .ok (.getfield 261, 3) := by decide +kernel
theorem dX12_weighs_188 : decode cX12_weighs 188 = .ok (.iload_n 1, 1) := by decide +kernel
theorem dX12_weighs_189 : decode cX12_weighs 189 = .ok (.iload_n 3, 1) := by decide +kernel
theorem dX12_weighs_190 : decode cX12_weighs 190 = .ok (.ldc_w 580, 3) := by decide +kernel
theorem dX12_weighs_193 : decode cX12_weighs 193 = .ok (.if_icmp .le 9, 3) := by decide +kernel
theorem dX12_weighs_196 : decode cX12_weighs 196 = .ok (.ldc_w 580, 3) := by decide +kernel
theorem dX12_weighs_199 : decode cX12_weighs 199 = .ok (.goto 4, 3) := by decide +kernel
theorem dX12_weighs_202 : decode cX12_weighs 202 = .ok (.iload_n 3, 1) := by decide +kernel
theorem dX12_weighs_203 : decode cX12_weighs 203 = .ok (.iconst 3, 1) := by decide +kernel
theorem dX12_weighs_204 : decode cX12_weighs 204 = .ok (.ishl, 1) := by decide +kernel
theorem dX12_weighs_205 : decode cX12_weighs 205 = .ok (.iload 4, 2) := by decide +kernel
theorem dX12_weighs_207 : decode cX12_weighs 207 = .ok (.ior, 1) := by decide +kernel
theorem dX12_weighs_208 : decode cX12_weighs 208 = .ok (.iastore, 1) := by decide +kernel
theorem dX12_weighs_209 : decode cX12_weighs 209 = .ok (.return_, 1) := by decide +kernel
theorem dX12_sizeOf_0 : decode cX12_sizeOf 0 = .ok (.iload_n 0, 1) := by decide +kernel
theorem dX12_sizeOf_1 : decode cX12_sizeOf 1 = .ok (.invokestatic 544, 3) := by decide +kernel
theorem dX12_sizeOf_4 : decode cX12_sizeOf 4 = .ok (.ireturn, 1) := by decide +kernel
theorem dX12_tree_0 : decode cX12_tree 0 = .ok (.aload_n 0, 1) := by decide +kernel
theorem dX12_tree_1 : decode cX12_tree 1 = .ok (.getfield 146, 3) := by decide +kernel
theorem dX12_tree_4 : decode cX12_tree 4 = .ok (.ifCond .eq 21, 3) := by decide +kernel
theorem dX12_tree_7 : decode cX12_tree 7 = .ok (.iload_n 1, 1) := by decide +kernel
theorem dX12_tree_8 : decode cX12_tree 8 = .ok (.iconst 0, 1) := by decide +kernel
theorem dX12_tree_9 : decode cX12_tree 9 = .ok (.iconst 3, 1) := by decide +kernel
theorem dX12_tree_10 : decode cX12_tree 10 = .ok (.invokestatic 362, 3) := by decide +kernel
theorem dX12_tree_13 : decode cX12_tree 13 = .ok (.ifCond .eq 12, 3) := by decide +kernel
theorem dX12_tree_16 : decode cX12_tree 16 = .ok (.iload_n 2, 1) := by decide +kernel
theorem dX12_tree_17 : decode cX12_tree 17 = .ok (.iconst 0, 1) := by decide +kernel
theorem dX12_tree_18 : decode cX12_tree 18 = .ok (.iconst 3, 1) := by decide +kernel
theorem dX12_tree_19 : decode cX12_tree 19 = .ok (.invokestatic 362, 3) := by decide +kernel
theorem dX12_tree_22 : decode cX12_tree 22 = .ok (.ifCond .ne 5, 3) := by decide +kernel
theorem dX12_tree_25 : decode cX12_tree 25 = .ok (.iconst (-1), 1) := by decide +kernel
theorem dX12_tree_26 : decode cX12_tree 26 = .ok (.ireturn, 1) := by decide +kernel
theorem dX12_tree_27 : decode cX12_tree 27 = .ok (.aload_n 0, 1) := by decide +kernel
theorem dX12_tree_28 : decode cX12_tree 28 = .ok (.iconst 0, 1) := by decide +kernel
theorem dX12_tree_29 : decode cX12_tree 29 = .ok (.iload_n 1, 1) := by decide +kernel
theorem dX12_tree_30 : decode cX12_tree 30 = .ok (.invokevirtual 581, 3) := by decide +kernel
theorem dX12_tree_33 : decode cX12_tree 33 = .ok (.iload_n 2, 1) := by decide +kernel
theorem dX12_tree_34 : decode cX12_tree 34 = .ok (.iconst 3, 1) := by decide +kernel
theorem dX12_tree_35 : decode cX12_tree 35 = .ok (.if_icmp .ne 9, 3) := by decide +kernel
theorem dX12_tree_38 : decode cX12_tree 38 = .ok (.aload_n 0, 1) := by decide +kernel
theorem dX12_tree_39 : decode cX12_tree 39 = .ok (.iconst 0, 1) := by decide +kernel
theorem dX12_tree_40 : decode cX12_tree 40 = .ok (.invokevirtual 584, 3) := by decide +kernel
theorem dX12_tree_43 : decode cX12_tree 43 = .ok (.ireturn, 1) := by decide +kernel
theorem dX12_tree_44 : decode cX12_tree 44 = .ok (.aload_n 0, 1) := by decide +kernel
theorem dX12_tree_45 : decode cX12_tree 45 = .ok (.invokevirtual 587, 3) := by decide +kernel
theorem dX12_tree_48 : decode cX12_tree 48 = .ok (.iload_n 2, 1) := by decide +kernel
theorem dX12_tree_49 : decode cX12_tree 49 = .ok (.iconst 1, 1) := by decide +kernel
theorem dX12_tree_50 : decode cX12_tree 50 = .ok (.if_icmp .ne 8, 3) := by decide +kernel
theorem dX12_tree_53 : decode cX12_tree 53 = .ok (.aload_n 0, 1) := by decide +kernel
theorem dX12_tree_54 : decode cX12_tree 54 = .ok (.getfield 258, 3) := by decide +kernel
theorem dX12_tree_57 : decode cX12_tree 57 = .ok (.ireturn, 1) := by decide +kernel
theorem dX12_tree_58 : decode cX12_tree 58 = .ok (.iconst 0, 1) := by decide +kernel
theorem dX12_tree_59 : decode cX12_tree 59 = .ok (.istore_n 3, 1) := by decide +kernel
theorem dX12_tree_60 : decode cX12_tree 60 = .ok (.iload_n 3, 1) := by decide +kernel
theorem dX12_tree_61 : decode cX12_tree 61 = .ok (.bipush 16, 2) := by decide +kernel
theorem dX12_tree_63 : decode cX12_tree 63 = .ok (.if_icmp .gt 52, 3) := by decide +kernel
theorem dX12_tree_66 : decode cX12_tree 66 = .ok (.iconst 0, 1) := by decide +kernel
theorem dX12_tree_67 : decode cX12_tree 67 = .ok (.istore 4, 2) := by decide +kernel
theorem dX12_tree_69 : decode cX12_tree 69 = .ok (.iload 4, 2) := by decide +kernel
theorem dX12_tree_71 : decode cX12_tree 71 = .ok (.aload_n 0, 1) := by decide +kernel
theorem dX12_tree_72 : decode cX12_tree 72 = .ok (.getfield 258, 3) := by decide +kernel
theorem dX12_tree_75 : decode cX12_tree 75 = .ok (.if_icmp .ge 34, 3) := by decide +kernel
theorem dX12_tree_78 : decode cX12_tree 78 = .ok (.aload_n 0, 1) := by decide +kernel
theorem dX12_tree_79 : decode cX12_tree 79 = .ok (.getfield 255, 3) := by decide +kernel
theorem dX12_tree_82 : decode cX12_tree 82 = .ok (.iload 4, 2) := by decide +kernel
theorem dX12_tree_84 : decode cX12_tree 84 = .ok (.iaload, 1) := by decide +kernel
theorem dX12_tree_85 : decode cX12_tree 85 = .ok (.invokestatic 590, 3) := by decide +kernel
theorem dX12_tree_88 : decode cX12_tree 88 = .ok (.iload_n 3, 1) := by decide +kernel
theorem dX12_tree_89 : decode cX12_tree 89 = .ok (.if_icmp .ne 14, 3) := by decide +kernel
theorem dX12_tree_92 : decode cX12_tree 92 = .ok (.aload_n 0, 1) := by decide +kernel
theorem dX12_tree_93 : decode cX12_tree 93 = .ok (.aload_n 0, 1) := by decide +kernel
theorem dX12_tree_94 : decode cX12_tree 94 = .ok (.getfield 255, 3) := by decide +kernel
theorem dX12_tree_97 : decode cX12_tree 97 = .ok (.iload 4, 2) := by decide +kernel
theorem dX12_tree_99 : decode cX12_tree 99 = .ok (.iaload, 1) := by decide +kernel
theorem dX12_tree_100 : decode cX12_tree 100 = .ok (.invokevirtual 593, 3) := by decide +kernel
theorem dX12_tree_103 : decode cX12_tree 103 = .ok (.iinc 4 1, 3) := by decide +kernel
theorem dX12_tree_106 : decode cX12_tree 106 = .ok (.goto (-37), 3) := by decide +kernel
theorem dX12_tree_109 : decode cX12_tree 109 = .ok (.iinc 3 1, 3) := by decide +kernel
theorem dX12_tree_112 : decode cX12_tree 112 = .ok (.goto (-52), 3) := by decide +kernel
theorem dX12_tree_115 : decode cX12_tree 115 = .ok (.iload_n 2, 1) := by decide +kernel
theorem dX12_tree_116 : decode cX12_tree 116 = .ok (.ifCond .ne 17, 3) := by decide +kernel
theorem dX12_tree_119 : decode cX12_tree 119 = .ok (.aload_n 0, 1) := by decide +kernel
theorem dX12_tree_120 : decode cX12_tree 120 = .ok (.getfield 261, 3) := by decide +kernel
theorem dX12_tree_123 : decode cX12_tree 123 = .ok (.aload_n 0, 1) := by decide +kernel
theorem dX12_tree_124 : decode cX12_tree 124 = .ok (.invokevirtual 562, 3) := by decide +kernel
theorem dX12_tree_127 : decode cX12_tree 127 = .ok (.iaload, 1) := by decide +kernel
theorem dX12_tree_128 : decode cX12_tree 128 = .ok (.iconst 3, 1) := by decide +kernel
theorem dX12_tree_129 : decode cX12_tree 129 = .ok (.ishr, 1) := by decide +kernel
theorem dX12_tree_130 : decode cX12_tree 130 = .ok (.goto 15, 3) := by decide +kernel
theorem dX12_tree_133 : decode cX12_tree 133 = .ok (.aload_n 0, 1) := by decide +kernel
theorem dX12_tree_134 : decode cX12_tree 134 = .ok (.getfield 261, 3) := by decide +kernel
theorem dX12_tree_137 : decode cX12_tree 137 = .ok (.aload_n 0, 1) := by decide +kernel
theorem dX12_tree_138 : decode cX12_tree 138 = .ok (.invokevirtual 562, 3) := by decide +kernel
theorem dX12_tree_141 : decode cX12_tree 141 = .ok (.iaload, 1) := by decide +kernel
theorem dX12_tree_142 : decode cX12_tree 142 = .ok (.bipush 7, 2) := by decide +kernel
theorem dX12_tree_144 : decode cX12_tree 144 = .ok (.iand, 1) := by decide +kernel
theorem dX12_tree_145 : decode cX12_tree 145 = .ok (.ireturn, 1) := by decide +kernel
theorem dX12_first_0 : decode cX12_first 0 = .ok (.aload_n 0, 1) := by decide +kernel
theorem dX12_first_1 : decode cX12_first 1 = .ok (.getfield 146, 3) := by decide +kernel
theorem dX12_first_4 : decode cX12_first 4 = .ok (.ifCond .eq 12, 3) := by decide +kernel
theorem dX12_first_7 : decode cX12_first 7 = .ok (.iload_n 1, 1) := by decide +kernel
theorem dX12_first_8 : decode cX12_first 8 = .ok (.iconst 0, 1) := by decide +kernel
theorem dX12_first_9 : decode cX12_first 9 = .ok (.iconst 3, 1) := by decide +kernel
theorem dX12_first_10 : decode cX12_first 10 = .ok (.invokestatic 362, 3) := by decide +kernel
theorem dX12_first_13 : decode cX12_first 13 = .ok (.ifCond .ne 5, 3) := by decide +kernel
theorem dX12_first_16 : decode cX12_first 16 = .ok (.iconst (-1), 1) := by decide +kernel
theorem dX12_first_17 : decode cX12_first 17 = .ok (.ireturn, 1) := by decide +kernel
theorem dX12_first_18 : decode cX12_first 18 = .ok (.aload_n 0, 1) := by decide +kernel
theorem dX12_first_19 : decode cX12_first 19 = .ok (.iconst 0, 1) := by decide +kernel
theorem dX12_first_20 : decode cX12_first 20 = .ok (.iload_n 1, 1) := by decide +kernel
theorem dX12_first_21 : decode cX12_first 21 = .ok (.invokevirtual 581, 3) := by decide +kernel
theorem dX12_first_24 : decode cX12_first 24 = .ok (.aload_n 0, 1) := by decide +kernel
theorem dX12_first_25 : decode cX12_first 25 = .ok (.invokevirtual 562, 3) := by decide +kernel
theorem dX12_first_28 : decode cX12_first 28 = .ok (.istore_n 2, 1) := by decide +kernel
theorem dX12_first_29 : decode cX12_first 29 = .ok (.aload_n 0, 1) := by decide +kernel
theorem dX12_first_30 : decode cX12_first 30 = .ok (.iload_n 2, 1) := by decide +kernel
theorem dX12_first_31 : decode cX12_first 31 = .ok (.invokevirtual 577, 3) := by decide +kernel
theorem dX12_first_34 : decode cX12_first 34 = .ok (.ifCond .eq 11, 3) := by decide +kernel
theorem dX12_first_37 : decode cX12_first 37 = .ok (.iload_n 2, 1) := by decide +kernel
theorem dX12_first_38 : decode cX12_first 38 = .ok (.invokestatic 565, 3) := by decide +kernel
theorem dX12_first_41 : decode cX12_first 41 = .ok (.istore_n 2, 1) := by decide +kernel
theorem dX12_first_42 : decode cX12_first 42 = .ok (.goto (-13), 3) := by decide +kernel
theorem dX12_first_45 : decode cX12_first 45 = .ok (.aload_n 0, 1) := by decide +kernel
theorem dX12_first_46 : decode cX12_first 46 = .ok (.iload_n 2, 1) := by decide +kernel
theorem dX12_first_47 : decode cX12_first 47 = .ok (.invokevirtual 556, 3) := by decide +kernel
theorem dX12_first_50 : decode cX12_first 50 = .ok (.istore_n 3, 1) := by decide +kernel
theorem dX12_first_51 : decode cX12_first 51 = .ok (.iload_n 3, 1) := by decide +kernel
theorem dX12_first_52 : decode cX12_first 52 = .ok (.iconst 4, 1) := by decide +kernel
theorem dX12_first_53 : decode cX12_first 53 = .ok (.if_icmp .ne 7, 3) := by decide +kernel
theorem dX12_first_56 : decode cX12_first 56 = .ok (.iconst (-1), 1) := by decide +kernel
theorem dX12_first_57 : decode cX12_first 57 = .ok (.goto 4, 3) := by decide +kernel
theorem dX12_first_60 : decode cX12_first 60 = .ok (.iload_n 3, 1) := by decide +kernel
theorem dX12_first_61 : decode cX12_first 61 = .ok (.ireturn, 1) := by decide +kernel
theorem dX12_isNewSet_0 : decode cX12_isNewSet 0 = .ok (.iconst 0, 1) := by decide +kernel
theorem dX12_isNewSet_1 : decode cX12_isNewSet 1 = .ok (.istore 4, 2) := by decide +kernel
theorem dX12_isNewSet_3 : decode cX12_isNewSet 3 = .ok (.iload 4, 2) := by decide +kernel
theorem dX12_isNewSet_5 : decode cX12_isNewSet 5 = .ok (.iload_n 3, 1) := by decide +kernel
theorem dX12_isNewSet_6 : decode cX12_isNewSet 6 = .ok (.if_icmp .ge 43, 3) := by decide +kernel
theorem dX12_isNewSet_9 : decode cX12_isNewSet 9 = .ok (.aload_n 0, 1) := by decide +kernel
theorem dX12_isNewSet_10 : decode cX12_isNewSet 10 = .ok (.getfield 203, 3) := by decide +kernel
theorem dX12_isNewSet_13 : decode cX12_isNewSet 13 = .ok (.sipush 2010, 3) := by decide +kernel
theorem dX12_isNewSet_16 : decode cX12_isNewSet 16 = .ok (.iload_n 2, 1) := by decide +kernel
theorem dX12_isNewSet_17 : decode cX12_isNewSet 17 = .ok (.imul, 1) := by decide +kernel
theorem dX12_isNewSet_18 : decode cX12_isNewSet 18 = .ok (.iload 4, 2) := by decide +kernel
theorem dX12_isNewSet_20 : decode cX12_isNewSet 20 = .ok (.iadd, 1) := by decide +kernel
theorem dX12_isNewSet_21 : decode cX12_isNewSet 21 = .ok (.iaload, 1) := by decide +kernel
theorem dX12_isNewSet_22 : decode cX12_isNewSet 22 = .ok (.iload_n 1, 1) := by decide +kernel
theorem dX12_isNewSet_23 : decode cX12_isNewSet 23 = .ok (.iand, 1) := by decide +kernel
theorem dX12_isNewSet_24 : decode cX12_isNewSet 24 = .ok (.aload_n 0, 1) := by decide +kernel
theorem dX12_isNewSet_25 : decode cX12_isNewSet 25 = .ok (.getfield 203, 3) := by decide +kernel
theorem dX12_isNewSet_28 : decode cX12_isNewSet 28 = .ok (.sipush 2010, 3) := by decide +kernel
theorem dX12_isNewSet_31 : decode cX12_isNewSet 31 = .ok (.iload_n 2, 1) := by decide +kernel
theorem dX12_isNewSet_32 : decode cX12_isNewSet 32 = .ok (.imul, 1) := by decide +kernel
theorem dX12_isNewSet_33 : decode cX12_isNewSet 33 = .ok (.iload_n 3, 1) := by decide +kernel
theorem dX12_isNewSet_34 : decode cX12_isNewSet 34 = .ok (.iadd, 1) := by decide +kernel
theorem dX12_isNewSet_35 : decode cX12_isNewSet 35 = .ok (.iaload, 1) := by decide +kernel
theorem dX12_isNewSet_36 : decode cX12_isNewSet 36 = .ok (.iload_n 1, 1) := by decide +kernel
theorem dX12_isNewSet_37 : decode cX12_isNewSet 37 = .ok (.iand, 1) := by decide +kernel
theorem dX12_isNewSet_38 : decode cX12_isNewSet 38 = .ok (.if_icmp .ne 5, 3) := by decide +kernel
theorem dX12_isNewSet_41 : decode cX12_isNewSet 41 = .ok (.iconst 0, 1) := by decide +kernel
theorem dX12_isNewSet_42 : decode cX12_isNewSet 42 = .ok (.ireturn, 1) := by decide +kernel
theorem dX12_isNewSet_43 : decode cX12_isNewSet 43 = .ok (.iinc 4 1, 3) := by decide +kernel
theorem dX12_isNewSet_46 : decode cX12_isNewSet 46 = .ok (.goto (-43), 3) := by decide +kernel
theorem dX12_isNewSet_49 : decode cX12_isNewSet 49 = .ok (.iconst 1, 1) := by decide +kernel
theorem dX12_isNewSet_50 : decode cX12_isNewSet 50 = .ok (.ireturn, 1) := by decide +kernel
theorem dX12_nextBranch_0 : decode cX12_nextBranch 0 = .ok (.aload_n 0, 1) := by decide +kernel
theorem dX12_nextBranch_1 : decode cX12_nextBranch 1 = .ok (.getfield 264, 3) := by decide +kernel
theorem dX12_nextBranch_4 : decode cX12_nextBranch 4 = .ok (.iload_n 1, 1) := by decide +kernel
theorem dX12_nextBranch_5 : decode cX12_nextBranch 5 = .ok (.iaload, 1) := by decide +kernel
theorem dX12_nextBranch_6 : decode cX12_nextBranch 6 = .ok (.istore_n 2, 1) := by decide +kernel
theorem dX12_nextBranch_7 : decode cX12_nextBranch 7 = .ok (.aload_n 0, 1) := by decide +kernel
theorem dX12_nextBranch_8 : decode cX12_nextBranch 8 = .ok (.iload_n 2, 1) := by decide +kernel
theorem dX12_nextBranch_9 : decode cX12_nextBranch 9 = .ok (.invokevirtual 556, 3) := by decide +kernel
theorem dX12_nextBranch_12 : decode cX12_nextBranch 12 = .ok (.istore_n 3, 1) := by decide +kernel
theorem dX12_nextBranch_13 : decode cX12_nextBranch 13 = .ok (.iload_n 3, 1) := by decide +kernel
theorem dX12_nextBranch_14 : decode cX12_nextBranch 14 = .ok (.iconst 4, 1) := by decide +kernel
theorem dX12_nextBranch_15 : decode cX12_nextBranch 15 = .ok (.if_icmp .ne 40, 3) := by decide +kernel
theorem dX12_nextBranch_18 : decode cX12_nextBranch 18 = .ok (.aload_n 0, 1) := by decide +kernel
theorem dX12_nextBranch_19 : decode cX12_nextBranch 19 = .ok (.getfield 267, 3) := by decide +kernel
theorem dX12_nextBranch_22 : decode cX12_nextBranch 22 = .ok (.iload_n 1, 1) := by decide +kernel
theorem dX12_nextBranch_23 : decode cX12_nextBranch 23 = .ok (.dup2, 1) := by decide +kernel
theorem dX12_nextBranch_24 : decode cX12_nextBranch 24 = .ok (.iaload, 1) := by decide +kernel
theorem dX12_nextBranch_25 : decode cX12_nextBranch 25 = .ok (.iconst 1, 1) := by decide +kernel
theorem dX12_nextBranch_26 : decode cX12_nextBranch 26 = .ok (.iadd, 1) := by decide +kernel
theorem dX12_nextBranch_27 : decode cX12_nextBranch 27 = .ok (.iastore, 1) := by decide +kernel
theorem dX12_nextBranch_28 : decode cX12_nextBranch 28 = .ok (.aload_n 0, 1) := by decide +kernel
theorem dX12_nextBranch_29 : decode cX12_nextBranch 29 = .ok (.getfield 267, 3) := by decide +kernel
theorem dX12_nextBranch_32 : decode cX12_nextBranch 32 = .ok (.iload_n 1, 1) := by decide +kernel
theorem dX12_nextBranch_33 : decode cX12_nextBranch 33 = .ok (.iaload, 1) := by decide +kernel
theorem dX12_nextBranch_34 : decode cX12_nextBranch 34 = .ok (.iconst 1, 1) := by decide +kernel
theorem dX12_nextBranch_35 : decode cX12_nextBranch 35 = .ok (.if_icmp .ne 18, 3) := by decide +kernel
theorem dX12_nextBranch_38 : decode cX12_nextBranch 38 = .ok (.aload_n 0, 1) := by decide +kernel
theorem dX12_nextBranch_39 : decode cX12_nextBranch 39 = .ok (.iload_n 2, 1) := by decide +kernel
theorem dX12_nextBranch_40 : decode cX12_nextBranch 40 = .ok (.invokevirtual 577, 3) := by decide +kernel
theorem dX12_nextBranch_43 : decode cX12_nextBranch 43 = .ok (.ifCond .eq 10, 3) := by decide +kernel
theorem dX12_nextBranch_46 : decode cX12_nextBranch 46 = .ok (.iload_n 2, 1) := by decide +kernel
theorem dX12_nextBranch_47 : decode cX12_nextBranch 47 = .ok (.invokestatic 565, 3) := by decide +kernel
theorem dX12_nextBranch_50 : decode cX12_nextBranch 50 = .ok (.goto 4, 3) := by decide +kernel
theorem dX12_nextBranch_53 : decode cX12_nextBranch 53 = .ok (.iconst (-1), 1) := by decide +kernel
theorem dX12_nextBranch_54 : decode cX12_nextBranch 54 = .ok (.ireturn, 1) := by decide +kernel
theorem dX12_nextBranch_55 : decode cX12_nextBranch 55 = .ok (.aload_n 0, 1) := by decide +kernel
theorem dX12_nextBranch_56 : decode cX12_nextBranch 56 = .ok (.getfield 267, 3) := by decide +kernel
theorem dX12_nextBranch_59 : decode cX12_nextBranch 59 = .ok (.iload_n 1, 1) := by decide +kernel
theorem dX12_nextBranch_60 : decode cX12_nextBranch 60 = .ok (.iaload, 1) := by decide +kernel
theorem dX12_nextBranch_61 : decode cX12_nextBranch 61 = .ok (.aload_n 0, 1) := by decide +kernel
theorem dX12_nextBranch_62 : decode cX12_nextBranch 62 = .ok (.getfield 164, 3) := by decide +kernel
theorem dX12_nextBranch_65 : decode cX12_nextBranch 65 = .ok (.iload_n 3, 1) := by decide +kernel
theorem dX12_nextBranch_66 : decode cX12_nextBranch 66 = .ok (.iaload, 1) := by decide +kernel
theorem dX12_nextBranch_67 : decode cX12_nextBranch 67 = .ok (.if_icmp .ge 58, 3) := by decide +kernel
theorem dX12_nextBranch_70 : decode cX12_nextBranch 70 = .ok (.aload_n 0, 1) := by decide +kernel
theorem dX12_nextBranch_71 : decode cX12_nextBranch 71 = .ok (.getfield 267, 3) := by decide +kernel
theorem dX12_nextBranch_74 : decode cX12_nextBranch 74 = .ok (.iload_n 1, 1) := by decide +kernel
theorem dX12_nextBranch_75 : decode cX12_nextBranch 75 = .ok (.iaload, 1) := by decide +kernel
theorem dX12_nextBranch_76 : decode cX12_nextBranch 76 = .ok (.istore 4, 2) := by decide +kernel
theorem dX12_nextBranch_78 : decode cX12_nextBranch 78 = .ok (.aload_n 0, 1) := by decide +kernel
theorem dX12_nextBranch_79 : decode cX12_nextBranch 79 = .ok (.getfield 267, 3) := by decide +kernel
theorem dX12_nextBranch_82 : decode cX12_nextBranch 82 = .ok (.iload_n 1, 1) := by decide +kernel
theorem dX12_nextBranch_83 : decode cX12_nextBranch 83 = .ok (.dup2, 1) := by decide +kernel
theorem dX12_nextBranch_84 : decode cX12_nextBranch 84 = .ok (.iaload, 1) := by decide +kernel
theorem dX12_nextBranch_85 : decode cX12_nextBranch 85 = .ok (.iconst 1, 1) := by decide +kernel
theorem dX12_nextBranch_86 : decode cX12_nextBranch 86 = .ok (.iadd, 1) := by decide +kernel
theorem dX12_nextBranch_87 : decode cX12_nextBranch 87 = .ok (.iastore, 1) := by decide +kernel
theorem dX12_nextBranch_88 : decode cX12_nextBranch 88 = .ok (.aload_n 0, 1) := by decide +kernel
theorem dX12_nextBranch_89 : decode cX12_nextBranch 89 = .ok (.iload_n 2, 1) := by decide +kernel
theorem dX12_nextBranch_90 : decode cX12_nextBranch 90 = .ok (.invokestatic 547, 3) := by decide +kernel
theorem dX12_nextBranch_93 : decode cX12_nextBranch 93 = .ok (.iload_n 3, 1) := by decide +kernel
theorem dX12_nextBranch_94 : decode cX12_nextBranch 94 = .ok (.iload 4, 2) := by decide +kernel
theorem dX12_nextBranch_96 : decode cX12_nextBranch 96 = .ok (.invokevirtual 596, 3) := by decide +kernel
theorem dX12_nextBranch_99 : decode cX12_nextBranch 99 = .ok (.ifCond .eq 23, 3) := by decide +kernel
theorem dX12_nextBranch_102 : decode cX12_nextBranch 102 = .ok (.aload_n 0, 1) := by decide +kernel
theorem dX12_nextBranch_103 : decode cX12_nextBranch 103 = .ok (.iload_n 2, 1) := by decide +kernel
theorem dX12_nextBranch_104 : decode cX12_nextBranch 104 = .ok (.iload_n 3, 1) := by decide +kernel
theorem dX12_nextBranch_105 : decode cX12_nextBranch 105 = .ok (.aload_n 0, 1) := by decide +kernel
theorem dX12_nextBranch_106 : decode cX12_nextBranch 106 = .ok (.getfield 203, 3) := by decide +kernel
theorem dX12_nextBranch_109 : decode cX12_nextBranch 109 = .ok (.sipush 2010, 3) := by decide +kernel
theorem dX12_nextBranch_112 : decode cX12_nextBranch 112 = .ok (.iload_n 3, 1) := by decide +kernel
theorem dX12_nextBranch_113 : decode cX12_nextBranch 113 = .ok (.imul, 1) := by decide +kernel
theorem dX12_nextBranch_114 : decode cX12_nextBranch 114 = .ok (.iload 4, 2) := by decide +kernel
theorem dX12_nextBranch_116 : decode cX12_nextBranch 116 = .ok (.iadd, 1) := by decide +kernel
theorem dX12_nextBranch_117 : decode cX12_nextBranch 117 = .ok (.iaload, 1) := by decide +kernel
theorem dX12_nextBranch_118 : decode cX12_nextBranch 118 = .ok (.invokevirtual 568, 3) := by decide +kernel
theorem dX12_nextBranch_121 : decode cX12_nextBranch 121 = .ok (.ireturn, 1) := by decide +kernel
theorem dX12_nextBranch_122 : decode cX12_nextBranch 122 = .ok (.goto (-67), 3) := by decide +kernel
theorem dX12_nextBranch_125 : decode cX12_nextBranch 125 = .ok (.iconst (-1), 1) := by decide +kernel
theorem dX12_nextBranch_126 : decode cX12_nextBranch 126 = .ok (.ireturn, 1) := by decide +kernel
theorem dX12_opensScope_0 : decode cX12_opensScope 0 = .ok (.aload_n 0, 1) := by decide +kernel
theorem dX12_opensScope_1 : decode cX12_opensScope 1 = .ok (.getfield 264, 3) := by decide +kernel
theorem dX12_opensScope_4 : decode cX12_opensScope 4 = .ok (.iload_n 1, 1) := by decide +kernel
theorem dX12_opensScope_5 : decode cX12_opensScope 5 = .ok (.iload_n 2, 1) := by decide +kernel
theorem dX12_opensScope_6 : decode cX12_opensScope 6 = .ok (.iastore, 1) := by decide +kernel
theorem dX12_opensScope_7 : decode cX12_opensScope 7 = .ok (.aload_n 0, 1) := by decide +kernel
theorem dX12_opensScope_8 : decode cX12_opensScope 8 = .ok (.getfield 267, 3) := by decide +kernel
theorem dX12_opensScope_11 : decode cX12_opensScope 11 = .ok (.iload_n 1, 1) := by decide +kernel
theorem dX12_opensScope_12 : decode cX12_opensScope 12 = .ok (.iconst 0, 1) := by decide +kernel
theorem dX12_opensScope_13 : decode cX12_opensScope 13 = .ok (.iastore, 1) := by decide +kernel
theorem dX12_opensScope_14 : decode cX12_opensScope 14 = .ok (.aload_n 0, 1) := by decide +kernel
theorem dX12_opensScope_15 : decode cX12_opensScope 15 = .ok (.getfield 270, 3) := by decide +kernel
theorem dX12_opensScope_18 : decode cX12_opensScope 18 = .ok (.iload_n 1, 1) := by decide +kernel
theorem dX12_opensScope_19 : decode cX12_opensScope 19 = .ok (.aload_n 0, 1) := by decide +kernel
theorem dX12_opensScope_20 : decode cX12_opensScope 20 = .ok (.getfield 276, 3) := by decide +kernel
theorem dX12_opensScope_23 : decode cX12_opensScope 23 = .ok (.iastore, 1) := by decide +kernel
theorem dX12_opensScope_24 : decode cX12_opensScope 24 = .ok (.aload_n 0, 1) := by decide +kernel
theorem dX12_opensScope_25 : decode cX12_opensScope 25 = .ok (.dup, 1) := by decide +kernel
theorem dX12_opensScope_26 : decode cX12_opensScope 26 = .ok (.getfield 276, 3) := by decide +kernel
theorem dX12_opensScope_29 : decode cX12_opensScope 29 = .ok (.iconst 1, 1) := by decide +kernel
theorem dX12_opensScope_30 : decode cX12_opensScope 30 = .ok (.iadd, 1) := by decide +kernel
theorem dX12_opensScope_31 : decode cX12_opensScope 31 = .ok (.putfield 276, 3) := by decide +kernel
theorem dX12_opensScope_34 : decode cX12_opensScope 34 = .ok (.aload_n 0, 1) := by decide +kernel
theorem dX12_opensScope_35 : decode cX12_opensScope 35 = .ok (.iload_n 1, 1) := by decide +kernel
theorem dX12_opensScope_36 : decode cX12_opensScope 36 = .ok (.iconst 1, 1) := by decide +kernel
theorem dX12_opensScope_37 : decode cX12_opensScope 37 = .ok (.iadd, 1) := by decide +kernel
theorem dX12_opensScope_38 : decode cX12_opensScope 38 = .ok (.aload_n 0, 1) := by decide +kernel
theorem dX12_opensScope_39 : decode cX12_opensScope 39 = .ok (.getfield 282, 3) := by decide +kernel
theorem dX12_opensScope_42 : decode cX12_opensScope 42 = .ok (.if_icmp .le 9, 3) := by decide +kernel
theorem dX12_opensScope_45 : decode cX12_opensScope 45 = .ok (.iload_n 1, 1) := by decide +kernel
theorem dX12_opensScope_46 : decode cX12_opensScope 46 = .ok (.iconst 1, 1) := by decide +kernel
theorem dX12_opensScope_47 : decode cX12_opensScope 47 = .ok (.iadd, 1) := by decide +kernel
theorem dX12_opensScope_48 : decode cX12_opensScope 48 = .ok (.goto 7, 3) := by decide +kernel
theorem dX12_opensScope_51 : decode cX12_opensScope 51 = .ok (.aload_n 0, 1) := by decide +kernel
theorem dX12_opensScope_52 : decode cX12_opensScope 52 = .ok (.getfield 282, 3) := by decide +kernel
theorem dX12_opensScope_55 : decode cX12_opensScope 55 = .ok (.putfield 282, 3) := by decide +kernel
theorem dX12_opensScope_58 : decode cX12_opensScope 58 = .ok (.return_, 1) := by decide +kernel
theorem dX12_builds_0 : decode cX12_builds 0 = .ok (.aload_n 0, 1) := by decide +kernel
theorem dX12_builds_1 : decode cX12_builds 1 = .ok (.iconst 0, 1) := by decide +kernel
theorem dX12_builds_2 : decode cX12_builds 2 = .ok (.putfield 276, 3) := by decide +kernel
theorem dX12_builds_5 : decode cX12_builds 5 = .ok (.aload_n 0, 1) := by decide +kernel
theorem dX12_builds_6 : decode cX12_builds 6 = .ok (.iconst 0, 1) := by decide +kernel
theorem dX12_builds_7 : decode cX12_builds 7 = .ok (.putfield 279, 3) := by decide +kernel
theorem dX12_builds_10 : decode cX12_builds 10 = .ok (.aload_n 0, 1) := by decide +kernel
theorem dX12_builds_11 : decode cX12_builds 11 = .ok (.iconst 0, 1) := by decide +kernel
theorem dX12_builds_12 : decode cX12_builds 12 = .ok (.putfield 282, 3) := by decide +kernel
theorem dX12_builds_15 : decode cX12_builds 15 = .ok (.aload_n 0, 1) := by decide +kernel
theorem dX12_builds_16 : decode cX12_builds 16 = .ok (.iconst 0, 1) := by decide +kernel
theorem dX12_builds_17 : decode cX12_builds 17 = .ok (.putfield 285, 3) := by decide +kernel
theorem dX12_builds_20 : decode cX12_builds 20 = .ok (.iconst 0, 1) := by decide +kernel
theorem dX12_builds_21 : decode cX12_builds 21 = .ok (.istore_n 1, 1) := by decide +kernel
theorem dX12_builds_22 : decode cX12_builds 22 = .ok (.aload_n 0, 1) := by decide +kernel
theorem dX12_builds_23 : decode cX12_builds 23 = .ok (.iconst 0, 1) := by decide +kernel
theorem dX12_builds_24 : decode cX12_builds 24 = .ok (.aload_n 0, 1) := by decide +kernel
theorem dX12_builds_25 : decode cX12_builds 25 = .ok (.invokevirtual 562, 3) := by decide +kernel
theorem dX12_builds_28 : decode cX12_builds 28 = .ok (.invokevirtual 599, 3) := by decide +kernel
theorem dX12_builds_31 : decode cX12_builds 31 = .ok (.iload_n 1, 1) := by decide +kernel
theorem dX12_builds_32 : decode cX12_builds 32 = .ok (.ifCond .lt 101, 3) := by decide +kernel
theorem dX12_builds_35 : decode cX12_builds 35 = .ok (.aload_n 0, 1) := by decide +kernel
theorem dX12_builds_36 : decode cX12_builds 36 = .ok (.getfield 285, 3) := by decide +kernel
theorem dX12_builds_39 : decode cX12_builds 39 = .ok (.ifCond .eq 7, 3) := by decide +kernel
theorem dX12_builds_42 : decode cX12_builds 42 = .ok (.iconst (-1), 1) := by decide +kernel
theorem dX12_builds_43 : decode cX12_builds 43 = .ok (.goto 8, 3) := by decide +kernel
theorem dX12_builds_46 : decode cX12_builds 46 = .ok (.aload_n 0, 1) := by decide +kernel
theorem dX12_builds_47 : decode cX12_builds 47 = .ok (.iload_n 1, 1) := by decide +kernel
theorem dX12_builds_48 : decode cX12_builds 48 = .ok (.invokevirtual 602, 3) := by decide +kernel
theorem dX12_builds_51 : decode cX12_builds 51 = .ok (.istore_n 2, 1) := by decide +kernel
theorem dX12_builds_52 : decode cX12_builds 52 = .ok (.iload_n 2, 1) := by decide +kernel
theorem dX12_builds_53 : decode cX12_builds 53 = .ok (.iconst (-1), 1) := by decide +kernel
theorem dX12_builds_54 : decode cX12_builds 54 = .ok (.if_icmp .eq 24, 3) := by decide +kernel
theorem dX12_builds_57 : decode cX12_builds 57 = .ok (.aload_n 0, 1) := by decide +kernel
theorem dX12_builds_58 : decode cX12_builds 58 = .ok (.getfield 276, 3) := by decide +kernel
theorem dX12_builds_61 : decode cX12_builds 61 = .ok (.aload_n 0, 1) := by decide +kernel
theorem dX12_builds_62 : decode cX12_builds 62 = .ok (.getfield 96, 3) := by decide +kernel
theorem dX12_builds_65 : decode cX12_builds 65 = .ok (.aload_n 0, 1) := by decide +kernel
theorem dX12_builds_66 : decode cX12_builds 66 = .ok (.getfield 51, 3) := by decide +kernel
theorem dX12_builds_69 : decode cX12_builds 69 = .ok (.iaload, 1) := by decide +kernel
theorem dX12_builds_70 : decode cX12_builds 70 = .ok (.if_icmp .ne 8, 3) := by decide +kernel
theorem dX12_builds_73 : decode cX12_builds 73 = .ok (.aload_n 0, 1) := by decide +kernel
theorem dX12_builds_74 : decode cX12_builds 74 = .ok (.iconst 1, 1) := by decide +kernel
theorem dX12_builds_75 : decode cX12_builds 75 = .ok (.putfield 285, 3) := by decide +kernel
theorem dX12_builds_78 : decode cX12_builds 78 = .ok (.iload_n 2, 1) := by decide +kernel
theorem dX12_builds_79 : decode cX12_builds 79 = .ok (.iconst (-1), 1) := by decide +kernel
theorem dX12_builds_80 : decode cX12_builds 80 = .ok (.if_icmp .eq 22, 3) := by decide +kernel
theorem dX12_builds_83 : decode cX12_builds 83 = .ok (.aload_n 0, 1) := by decide +kernel
theorem dX12_builds_84 : decode cX12_builds 84 = .ok (.getfield 285, 3) := by decide +kernel
theorem dX12_builds_87 : decode cX12_builds 87 = .ok (.ifCond .ne 15, 3) := by decide +kernel
theorem dX12_builds_90 : decode cX12_builds 90 = .ok (.iinc 1 1, 3) := by decide +kernel
theorem dX12_builds_93 : decode cX12_builds 93 = .ok (.aload_n 0, 1) := by decide +kernel
theorem dX12_builds_94 : decode cX12_builds 94 = .ok (.iload_n 1, 1) := by decide +kernel
theorem dX12_builds_95 : decode cX12_builds 95 = .ok (.iload_n 2, 1) := by decide +kernel
theorem dX12_builds_96 : decode cX12_builds 96 = .ok (.invokevirtual 599, 3) := by decide +kernel
theorem dX12_builds_99 : decode cX12_builds 99 = .ok (.goto (-68), 3) := by decide +kernel
theorem dX12_builds_102 : decode cX12_builds 102 = .ok (.aload_n 0, 1) := by decide +kernel
theorem dX12_builds_103 : decode cX12_builds 103 = .ok (.getfield 273, 3) := by decide +kernel
theorem dX12_builds_106 : decode cX12_builds 106 = .ok (.aload_n 0, 1) := by decide +kernel
theorem dX12_builds_107 : decode cX12_builds 107 = .ok (.getfield 279, 3) := by decide +kernel
theorem dX12_builds_110 : decode cX12_builds 110 = .ok (.aload_n 0, 1) := by decide +kernel
theorem dX12_builds_111 : decode cX12_builds 111 = .ok (.getfield 270, 3) := by decide +kernel
theorem dX12_builds_114 : decode cX12_builds 114 = .ok (.iload_n 1, 1) := by decide +kernel
theorem dX12_builds_115 : decode cX12_builds 115 = .ok (.iaload, 1) := by decide +kernel
theorem dX12_builds_116 : decode cX12_builds 116 = .ok (.iastore, 1) := by decide +kernel
theorem dX12_builds_117 : decode cX12_builds 117 = .ok (.aload_n 0, 1) := by decide +kernel
theorem dX12_builds_118 : decode cX12_builds 118 = .ok (.dup, 1) := by decide +kernel
theorem dX12_builds_119 : decode cX12_builds 119 = .ok (.getfield 279, 3) := by decide +kernel
theorem dX12_builds_122 : decode cX12_builds 122 = .ok (.iconst 1, 1) := by decide +kernel
theorem dX12_builds_123 : decode cX12_builds 123 = .ok (.iadd, 1) := by decide +kernel
theorem dX12_builds_124 : decode cX12_builds 124 = .ok (.putfield 279, 3) := by decide +kernel
theorem dX12_builds_127 : decode cX12_builds 127 = .ok (.iinc 1 (-1), 3) := by decide +kernel
theorem dX12_builds_130 : decode cX12_builds 130 = .ok (.goto (-99), 3) := by decide +kernel
theorem dX12_builds_133 : decode cX12_builds 133 = .ok (.return_, 1) := by decide +kernel
theorem dX12_scopes_0 : decode cX12_scopes 0 = .ok (.aload_n 0, 1) := by decide +kernel
theorem dX12_scopes_1 : decode cX12_scopes 1 = .ok (.getfield 146, 3) := by decide +kernel
theorem dX12_scopes_4 : decode cX12_scopes 4 = .ok (.ifCond .eq 21, 3) := by decide +kernel
theorem dX12_scopes_7 : decode cX12_scopes 7 = .ok (.iload_n 1, 1) := by decide +kernel
theorem dX12_scopes_8 : decode cX12_scopes 8 = .ok (.iconst 0, 1) := by decide +kernel
theorem dX12_scopes_9 : decode cX12_scopes 9 = .ok (.iconst 3, 1) := by decide +kernel
theorem dX12_scopes_10 : decode cX12_scopes 10 = .ok (.invokestatic 362, 3) := by decide +kernel
theorem dX12_scopes_13 : decode cX12_scopes 13 = .ok (.ifCond .eq 12, 3) := by decide +kernel
theorem dX12_scopes_16 : decode cX12_scopes 16 = .ok (.iload_n 2, 1) := by decide +kernel
theorem dX12_scopes_17 : decode cX12_scopes 17 = .ok (.iconst 0, 1) := by decide +kernel
theorem dX12_scopes_18 : decode cX12_scopes 18 = .ok (.iconst 3, 1) := by decide +kernel
theorem dX12_scopes_19 : decode cX12_scopes 19 = .ok (.invokestatic 362, 3) := by decide +kernel
theorem dX12_scopes_22 : decode cX12_scopes 22 = .ok (.ifCond .ne 5, 3) := by decide +kernel
theorem dX12_scopes_25 : decode cX12_scopes 25 = .ok (.iconst (-1), 1) := by decide +kernel
