section
section
theorem dX12_goesOn_174 : decode cX12_goesOn 174 = .ok (.ifCond .ne 7, 3) := dq_154 (a := 0) (b := 7) (fd_r fcX12_goesOn (by decide +kernel)) rfl
theorem dX12_goesOn_177 : decode cX12_goesOn 177 = .ok (.iconst 1, 1) := dq_4 (fd_r fcX12_goesOn (by decide +kernel))
theorem dX12_goesOn_178 : decode cX12_goesOn 178 = .ok (.goto 4, 3) := dq_167 (a := 0) (b := 4) (fd_r fcX12_goesOn (by decide +kernel)) rfl
theorem dX12_goesOn_181 : decode cX12_goesOn 181 = .ok (.iconst 0, 1) := dq_3 (fd_r fcX12_goesOn (by decide +kernel))
theorem dX12_goesOn_182 : decode cX12_goesOn 182 = .ok (.ireturn, 1) := dq_172 (fd_r fcX12_goesOn (by decide +kernel))
theorem dX12_goesOn_183 : decode cX12_goesOn 183 = .ok (.aload_n 0, 1) := dq_42 (fd_r fcX12_goesOn (by decide +kernel))
theorem dX12_goesOn_184 : decode cX12_goesOn 184 = .ok (.bipush 41, 2) := dq_16 (a := 41) (fd_r fcX12_goesOn (by decide +kernel)) rfl
theorem dX12_goesOn_186 : decode cX12_goesOn 186 = .ok (.invokevirtual 413, 3) := dq_182 (a := 1) (b := 157) (fd_r fcX12_goesOn (by decide +kernel)) rfl
theorem dX12_goesOn_189 : decode cX12_goesOn 189 = .ok (.goto (-189), 3) := dq_167 (a := 255) (b := 67) (fd_r fcX12_goesOn (by decide +kernel)) rfl
theorem dX12_goesOn_192 : decode cX12_goesOn 192 = .ok (.iconst 0, 1) := dq_3 (fd_r fcX12_goesOn (by decide +kernel))
theorem dX12_goesOn_193 : decode cX12_goesOn 193 = .ok (.ireturn, 1) := dq_172 (fd_r fcX12_goesOn (by decide +kernel))
theorem dX12_pattern_0 : decode cX12_pattern 0 = .ok (.aload_n 0, 1) := dq_42 (fd_r fcX12_pattern (by decide +kernel))
theorem dX12_pattern_1 : decode cX12_pattern 1 = .ok (.iconst 0, 1) := dq_3 (fd_r fcX12_pattern (by decide +kernel))
theorem dX12_pattern_2 : decode cX12_pattern 2 = .ok (.putfield 143, 3) := dq_181 (a := 0) (b := 143) (fd_r fcX12_pattern (by decide +kernel)) rfl
theorem dX12_pattern_5 : decode cX12_pattern 5 = .ok (.aload_n 0, 1) := dq_42 (fd_r fcX12_pattern (by decide +kernel))
theorem dX12_pattern_6 : decode cX12_pattern 6 = .ok (.iload_n 1, 1) := dq_27 (fd_r fcX12_pattern (by decide +kernel))
theorem dX12_pattern_7 : decode cX12_pattern 7 = .ok (.invokevirtual 404, 3) := dq_182 (a := 1) (b := 148) (fd_r fcX12_pattern (by decide +kernel)) rfl
theorem dX12_pattern_10 : decode cX12_pattern 10 = .ok (.iconst 1, 1) := dq_4 (fd_r fcX12_pattern (by decide +kernel))
theorem dX12_pattern_11 : decode cX12_pattern 11 = .ok (.istore_n 2, 1) := dq_61 (fd_r fcX12_pattern (by decide +kernel))
theorem dX12_pattern_12 : decode cX12_pattern 12 = .ok (.iload_n 2, 1) := dq_28 (fd_r fcX12_pattern (by decide +kernel))
theorem dX12_pattern_13 : decode cX12_pattern 13 = .ok (.ifCond .eq 26, 3) := dq_153 (a := 0) (b := 26) (fd_r fcX12_pattern (by decide +kernel)) rfl
theorem dX12_pattern_16 : decode cX12_pattern 16 = .ok (.aload_n 0, 1) := dq_42 (fd_r fcX12_pattern (by decide +kernel))
theorem dX12_pattern_17 : decode cX12_pattern 17 = .ok (.getfield 36, 3) := dq_180 (a := 0) (b := 36) (fd_r fcX12_pattern (by decide +kernel)) rfl
theorem dX12_pattern_20 : decode cX12_pattern 20 = .ok (.ifCond .ne 19, 3) := dq_154 (a := 0) (b := 19) (fd_r fcX12_pattern (by decide +kernel)) rfl
theorem dX12_pattern_23 : decode cX12_pattern 23 = .ok (.aload_n 0, 1) := dq_42 (fd_r fcX12_pattern (by decide +kernel))
theorem dX12_pattern_24 : decode cX12_pattern 24 = .ok (.invokevirtual 419, 3) := dq_182 (a := 1) (b := 163) (fd_r fcX12_pattern (by decide +kernel)) rfl
theorem dX12_pattern_27 : decode cX12_pattern 27 = .ok (.ifCond .eq (-15), 3) := dq_153 (a := 255) (b := 241) (fd_r fcX12_pattern (by decide +kernel)) rfl
theorem dX12_pattern_30 : decode cX12_pattern 30 = .ok (.aload_n 0, 1) := dq_42 (fd_r fcX12_pattern (by decide +kernel))
theorem dX12_pattern_31 : decode cX12_pattern 31 = .ok (.iconst 0, 1) := dq_3 (fd_r fcX12_pattern (by decide +kernel))
theorem dX12_pattern_32 : decode cX12_pattern 32 = .ok (.invokevirtual 422, 3) := dq_182 (a := 1) (b := 166) (fd_r fcX12_pattern (by decide +kernel)) rfl
theorem dX12_pattern_35 : decode cX12_pattern 35 = .ok (.istore_n 2, 1) := dq_61 (fd_r fcX12_pattern (by decide +kernel))
theorem dX12_pattern_36 : decode cX12_pattern 36 = .ok (.goto (-24), 3) := dq_167 (a := 255) (b := 232) (fd_r fcX12_pattern (by decide +kernel)) rfl
theorem dX12_pattern_39 : decode cX12_pattern 39 = .ok (.return_, 1) := dq_177 (fd_r fcX12_pattern (by decide +kernel))
theorem dX12_armIs_0 : decode cX12_armIs 0 = .ok (.aload_n 0, 1) := dq_42 (fd_r fcX12_armIs (by decide +kernel))
theorem dX12_armIs_1 : decode cX12_armIs 1 = .ok (.getfield 127, 3) := dq_180 (a := 0) (b := 127) (fd_r fcX12_armIs (by decide +kernel)) rfl
theorem dX12_armIs_4 : decode cX12_armIs 4 = .ok (.ifCond .ne 12, 3) := dq_154 (a := 0) (b := 12) (fd_r fcX12_armIs (by decide +kernel)) rfl
theorem dX12_armIs_7 : decode cX12_armIs 7 = .ok (.aload_n 0, 1) := dq_42 (fd_r fcX12_armIs (by decide +kernel))
theorem dX12_armIs_8 : decode cX12_armIs 8 = .ok (.iconst 1, 1) := dq_4 (fd_r fcX12_armIs (by decide +kernel))
theorem dX12_armIs_9 : decode cX12_armIs 9 = .ok (.aload_n 0, 1) := dq_42 (fd_r fcX12_armIs (by decide +kernel))
theorem dX12_armIs_10 : decode cX12_armIs 10 = .ok (.getfield 23, 3) := dq_180 (a := 0) (b := 23) (fd_r fcX12_armIs (by decide +kernel)) rfl
theorem dX12_armIs_13 : decode cX12_armIs 13 = .ok (.invokevirtual 320, 3) := dq_182 (a := 1) (b := 64) (fd_r fcX12_armIs (by decide +kernel)) rfl
theorem dX12_armIs_16 : decode cX12_armIs 16 = .ok (.aload_n 0, 1) := dq_42 (fd_r fcX12_armIs (by decide +kernel))
theorem dX12_armIs_17 : decode cX12_armIs 17 = .ok (.aload_n 0, 1) := dq_42 (fd_r fcX12_armIs (by decide +kernel))
theorem dX12_armIs_18 : decode cX12_armIs 18 = .ok (.getfield 87, 3) := dq_180 (a := 0) (b := 87) (fd_r fcX12_armIs (by decide +kernel)) rfl
theorem dX12_armIs_21 : decode cX12_armIs 21 = .ok (.aload_n 0, 1) := dq_42 (fd_r fcX12_armIs (by decide +kernel))
theorem dX12_armIs_22 : decode cX12_armIs 22 = .ok (.getfield 124, 3) := dq_180 (a := 0) (b := 124) (fd_r fcX12_armIs (by decide +kernel)) rfl
theorem dX12_armIs_25 : decode cX12_armIs 25 = .ok (.iaload, 1) := dq_46 (fd_r fcX12_armIs (by decide +kernel))
theorem dX12_armIs_26 : decode cX12_armIs 26 = .ok (.bipush 12, 2) := dq_16 (a := 12) (fd_r fcX12_armIs (by decide +kernel)) rfl
theorem dX12_armIs_28 : decode cX12_armIs 28 = .ok (.if_icmp .ne 7, 3) := dq_160 (a := 0) (b := 7) (fd_r fcX12_armIs (by decide +kernel)) rfl
theorem dX12_armIs_31 : decode cX12_armIs 31 = .ok (.iconst 1, 1) := dq_4 (fd_r fcX12_armIs (by decide +kernel))
theorem dX12_armIs_32 : decode cX12_armIs 32 = .ok (.goto 4, 3) := dq_167 (a := 0) (b := 4) (fd_r fcX12_armIs (by decide +kernel)) rfl
theorem dX12_armIs_35 : decode cX12_armIs 35 = .ok (.iconst 0, 1) := dq_3 (fd_r fcX12_armIs (by decide +kernel))
theorem dX12_armIs_36 : decode cX12_armIs 36 = .ok (.invokevirtual 378, 3) := dq_182 (a := 1) (b := 122) (fd_r fcX12_armIs (by decide +kernel)) rfl
theorem dX12_armIs_39 : decode cX12_armIs 39 = .ok (.ifCond .ne 4, 3) := dq_154 (a := 0) (b := 4) (fd_r fcX12_armIs (by decide +kernel)) rfl
theorem dX12_armIs_42 : decode cX12_armIs 42 = .ok (.return_, 1) := dq_177 (fd_r fcX12_armIs (by decide +kernel))
theorem dX12_armIs_43 : decode cX12_armIs 43 = .ok (.bipush 12, 2) := dq_16 (a := 12) (fd_r fcX12_armIs (by decide +kernel)) rfl
theorem dX12_armIs_45 : decode cX12_armIs 45 = .ok (.aload_n 0, 1) := dq_42 (fd_r fcX12_armIs (by decide +kernel))
theorem dX12_armIs_46 : decode cX12_armIs 46 = .ok (.getfield 124, 3) := dq_180 (a := 0) (b := 124) (fd_r fcX12_armIs (by decide +kernel)) rfl
theorem dX12_armIs_49 : decode cX12_armIs 49 = .ok (.imul, 1) := dq_104 (fd_r fcX12_armIs (by decide +kernel))
theorem dX12_armIs_50 : decode cX12_armIs 50 = .ok (.aload_n 0, 1) := dq_42 (fd_r fcX12_armIs (by decide +kernel))
theorem dX12_armIs_51 : decode cX12_armIs 51 = .ok (.getfield 87, 3) := dq_180 (a := 0) (b := 87) (fd_r fcX12_armIs (by decide +kernel)) rfl
theorem dX12_armIs_54 : decode cX12_armIs 54 = .ok (.aload_n 0, 1) := dq_42 (fd_r fcX12_armIs (by decide +kernel))
theorem dX12_armIs_55 : decode cX12_armIs 55 = .ok (.getfield 124, 3) := dq_180 (a := 0) (b := 124) (fd_r fcX12_armIs (by decide +kernel)) rfl
theorem dX12_armIs_58 : decode cX12_armIs 58 = .ok (.iaload, 1) := dq_46 (fd_r fcX12_armIs (by decide +kernel))
theorem dX12_armIs_59 : decode cX12_armIs 59 = .ok (.iadd, 1) := dq_96 (fd_r fcX12_armIs (by decide +kernel))
theorem dX12_armIs_60 : decode cX12_armIs 60 = .ok (.istore_n 1, 1) := dq_60 (fd_r fcX12_armIs (by decide +kernel))
theorem dX12_armIs_61 : decode cX12_armIs 61 = .ok (.iconst 0, 1) := dq_3 (fd_r fcX12_armIs (by decide +kernel))
theorem dX12_armIs_62 : decode cX12_armIs 62 = .ok (.istore_n 2, 1) := dq_61 (fd_r fcX12_armIs (by decide +kernel))
theorem dX12_armIs_63 : decode cX12_armIs 63 = .ok (.iload_n 2, 1) := dq_28 (fd_r fcX12_armIs (by decide +kernel))
theorem dX12_armIs_64 : decode cX12_armIs 64 = .ok (.aload_n 0, 1) := dq_42 (fd_r fcX12_armIs (by decide +kernel))
theorem dX12_armIs_65 : decode cX12_armIs 65 = .ok (.getfield 81, 3) := dq_180 (a := 0) (b := 81) (fd_r fcX12_armIs (by decide +kernel)) rfl
theorem dX12_armIs_68 : decode cX12_armIs 68 = .ok (.aload_n 0, 1) := dq_42 (fd_r fcX12_armIs (by decide +kernel))
theorem dX12_armIs_69 : decode cX12_armIs 69 = .ok (.getfield 124, 3) := dq_180 (a := 0) (b := 124) (fd_r fcX12_armIs (by decide +kernel)) rfl
theorem dX12_armIs_72 : decode cX12_armIs 72 = .ok (.iaload, 1) := dq_46 (fd_r fcX12_armIs (by decide +kernel))
theorem dX12_armIs_73 : decode cX12_armIs 73 = .ok (.if_icmp .ge 78, 3) := dq_162 (a := 0) (b := 78) (fd_r fcX12_armIs (by decide +kernel)) rfl
theorem dX12_armIs_76 : decode cX12_armIs 76 = .ok (.aload_n 0, 1) := dq_42 (fd_r fcX12_armIs (by decide +kernel))
theorem dX12_armIs_77 : decode cX12_armIs 77 = .ok (.getfield 36, 3) := dq_180 (a := 0) (b := 36) (fd_r fcX12_armIs (by decide +kernel)) rfl
theorem dX12_armIs_80 : decode cX12_armIs 80 = .ok (.ifCond .ne 71, 3) := dq_154 (a := 0) (b := 71) (fd_r fcX12_armIs (by decide +kernel)) rfl
theorem dX12_armIs_83 : decode cX12_armIs 83 = .ok (.iload_n 2, 1) := dq_28 (fd_r fcX12_armIs (by decide +kernel))
theorem dX12_armIs_84 : decode cX12_armIs 84 = .ok (.ifCond .le 9, 3) := dq_158 (a := 0) (b := 9) (fd_r fcX12_armIs (by decide +kernel)) rfl
theorem dX12_armIs_87 : decode cX12_armIs 87 = .ok (.aload_n 0, 1) := dq_42 (fd_r fcX12_armIs (by decide +kernel))
theorem dX12_armIs_88 : decode cX12_armIs 88 = .ok (.bipush 44, 2) := dq_16 (a := 44) (fd_r fcX12_armIs (by decide +kernel)) rfl
theorem dX12_armIs_90 : decode cX12_armIs 90 = .ok (.invokevirtual 413, 3) := dq_182 (a := 1) (b := 157) (fd_r fcX12_armIs (by decide +kernel)) rfl
theorem dX12_armIs_93 : decode cX12_armIs 93 = .ok (.aload_n 0, 1) := dq_42 (fd_r fcX12_armIs (by decide +kernel))
theorem dX12_armIs_94 : decode cX12_armIs 94 = .ok (.getfield 99, 3) := dq_180 (a := 0) (b := 99) (fd_r fcX12_armIs (by decide +kernel)) rfl
theorem dX12_armIs_97 : decode cX12_armIs 97 = .ok (.iconst 4, 1) := dq_7 (fd_r fcX12_armIs (by decide +kernel))
theorem dX12_armIs_98 : decode cX12_armIs 98 = .ok (.iload_n 1, 1) := dq_27 (fd_r fcX12_armIs (by decide +kernel))
theorem dX12_armIs_99 : decode cX12_armIs 99 = .ok (.imul, 1) := dq_104 (fd_r fcX12_armIs (by decide +kernel))
theorem dX12_armIs_100 : decode cX12_armIs 100 = .ok (.iload_n 2, 1) := dq_28 (fd_r fcX12_armIs (by decide +kernel))
theorem dX12_armIs_101 : decode cX12_armIs 101 = .ok (.iadd, 1) := dq_96 (fd_r fcX12_armIs (by decide +kernel))
theorem dX12_armIs_102 : decode cX12_armIs 102 = .ok (.aload_n 0, 1) := dq_42 (fd_r fcX12_armIs (by decide +kernel))
theorem dX12_armIs_103 : decode cX12_armIs 103 = .ok (.getfield 121, 3) := dq_180 (a := 0) (b := 121) (fd_r fcX12_armIs (by decide +kernel)) rfl
theorem dX12_armIs_106 : decode cX12_armIs 106 = .ok (.iastore, 1) := dq_79 (fd_r fcX12_armIs (by decide +kernel))
theorem dX12_armIs_107 : decode cX12_armIs 107 = .ok (.aload_n 0, 1) := dq_42 (fd_r fcX12_armIs (by decide +kernel))
theorem dX12_armIs_108 : decode cX12_armIs 108 = .ok (.getfield 36, 3) := dq_180 (a := 0) (b := 36) (fd_r fcX12_armIs (by decide +kernel)) rfl
theorem dX12_armIs_111 : decode cX12_armIs 111 = .ok (.ifCond .ne 20, 3) := dq_154 (a := 0) (b := 20) (fd_r fcX12_armIs (by decide +kernel)) rfl
theorem dX12_armIs_114 : decode cX12_armIs 114 = .ok (.aload_n 0, 1) := dq_42 (fd_r fcX12_armIs (by decide +kernel))
theorem dX12_armIs_115 : decode cX12_armIs 115 = .ok (.aload_n 0, 1) := dq_42 (fd_r fcX12_armIs (by decide +kernel))
theorem dX12_armIs_116 : decode cX12_armIs 116 = .ok (.getfield 84, 3) := dq_180 (a := 0) (b := 84) (fd_r fcX12_armIs (by decide +kernel)) rfl
theorem dX12_armIs_119 : decode cX12_armIs 119 = .ok (.iconst 4, 1) := dq_7 (fd_r fcX12_armIs (by decide +kernel))
theorem dX12_armIs_120 : decode cX12_armIs 120 = .ok (.aload_n 0, 1) := dq_42 (fd_r fcX12_armIs (by decide +kernel))
theorem dX12_armIs_121 : decode cX12_armIs 121 = .ok (.getfield 124, 3) := dq_180 (a := 0) (b := 124) (fd_r fcX12_armIs (by decide +kernel)) rfl
theorem dX12_armIs_124 : decode cX12_armIs 124 = .ok (.imul, 1) := dq_104 (fd_r fcX12_armIs (by decide +kernel))
theorem dX12_armIs_125 : decode cX12_armIs 125 = .ok (.iload_n 2, 1) := dq_28 (fd_r fcX12_armIs (by decide +kernel))
theorem dX12_armIs_126 : decode cX12_armIs 126 = .ok (.iadd, 1) := dq_96 (fd_r fcX12_armIs (by decide +kernel))
theorem dX12_armIs_127 : decode cX12_armIs 127 = .ok (.iaload, 1) := dq_46 (fd_r fcX12_armIs (by decide +kernel))
theorem dX12_armIs_128 : decode cX12_armIs 128 = .ok (.invokevirtual 425, 3) := dq_182 (a := 1) (b := 169) (fd_r fcX12_armIs (by decide +kernel)) rfl
theorem dX12_armIs_131 : decode cX12_armIs 131 = .ok (.aload_n 0, 1) := dq_42 (fd_r fcX12_armIs (by decide +kernel))
theorem dX12_armIs_132 : decode cX12_armIs 132 = .ok (.getfield 102, 3) := dq_180 (a := 0) (b := 102) (fd_r fcX12_armIs (by decide +kernel)) rfl
theorem dX12_armIs_135 : decode cX12_armIs 135 = .ok (.iconst 4, 1) := dq_7 (fd_r fcX12_armIs (by decide +kernel))
theorem dX12_armIs_136 : decode cX12_armIs 136 = .ok (.iload_n 1, 1) := dq_27 (fd_r fcX12_armIs (by decide +kernel))
theorem dX12_armIs_137 : decode cX12_armIs 137 = .ok (.imul, 1) := dq_104 (fd_r fcX12_armIs (by decide +kernel))
theorem dX12_armIs_138 : decode cX12_armIs 138 = .ok (.iload_n 2, 1) := dq_28 (fd_r fcX12_armIs (by decide +kernel))
theorem dX12_armIs_139 : decode cX12_armIs 139 = .ok (.iadd, 1) := dq_96 (fd_r fcX12_armIs (by decide +kernel))
theorem dX12_armIs_140 : decode cX12_armIs 140 = .ok (.aload_n 0, 1) := dq_42 (fd_r fcX12_armIs (by decide +kernel))
theorem dX12_armIs_141 : decode cX12_armIs 141 = .ok (.getfield 121, 3) := dq_180 (a := 0) (b := 121) (fd_r fcX12_armIs (by decide +kernel)) rfl
theorem dX12_armIs_144 : decode cX12_armIs 144 = .ok (.iastore, 1) := dq_79 (fd_r fcX12_armIs (by decide +kernel))
theorem dX12_armIs_145 : decode cX12_armIs 145 = .ok (.iinc 2 1, 3) := dq_132 (a := 2) (b := 1) (fd_r fcX12_armIs (by decide +kernel)) rfl
theorem dX12_armIs_148 : decode cX12_armIs 148 = .ok (.goto (-85), 3) := dq_167 (a := 255) (b := 171) (fd_r fcX12_armIs (by decide +kernel)) rfl
theorem dX12_armIs_151 : decode cX12_armIs 151 = .ok (.aload_n 0, 1) := dq_42 (fd_r fcX12_armIs (by decide +kernel))
theorem dX12_armIs_152 : decode cX12_armIs 152 = .ok (.getfield 90, 3) := dq_180 (a := 0) (b := 90) (fd_r fcX12_armIs (by decide +kernel)) rfl
theorem dX12_armIs_155 : decode cX12_armIs 155 = .ok (.iload_n 1, 1) := dq_27 (fd_r fcX12_armIs (by decide +kernel))
theorem dX12_armIs_156 : decode cX12_armIs 156 = .ok (.iconst (-1), 1) := dq_2 (fd_r fcX12_armIs (by decide +kernel))
theorem dX12_armIs_157 : decode cX12_armIs 157 = .ok (.iastore, 1) := dq_79 (fd_r fcX12_armIs (by decide +kernel))
theorem dX12_armIs_158 : decode cX12_armIs 158 = .ok (.aload_n 0, 1) := dq_42 (fd_r fcX12_armIs (by decide +kernel))
theorem dX12_armIs_159 : decode cX12_armIs 159 = .ok (.invokevirtual 331, 3) := dq_182 (a := 1) (b := 75) (fd_r fcX12_armIs (by decide +kernel)) rfl
theorem dX12_armIs_162 : decode cX12_armIs 162 = .ok (.aload_n 0, 1) := dq_42 (fd_r fcX12_armIs (by decide +kernel))
theorem dX12_armIs_163 : decode cX12_armIs 163 = .ok (.getfield 36, 3) := dq_180 (a := 0) (b := 36) (fd_r fcX12_armIs (by decide +kernel)) rfl
theorem dX12_armIs_166 : decode cX12_armIs 166 = .ok (.ifCond .ne 30, 3) := dq_154 (a := 0) (b := 30) (fd_r fcX12_armIs (by decide +kernel)) rfl
theorem dX12_armIs_169 : decode cX12_armIs 169 = .ok (.aload_n 0, 1) := dq_42 (fd_r fcX12_armIs (by decide +kernel))
theorem dX12_armIs_170 : decode cX12_armIs 170 = .ok (.ldc2_w 348, 3) := dq_20 (a := 1) (b := 92) (fd_r fcX12_armIs (by decide +kernel)) rfl
theorem dX12_armIs_173 : decode cX12_armIs 173 = .ok (.invokevirtual 386, 3) := dq_182 (a := 1) (b := 130) (fd_r fcX12_armIs (by decide +kernel)) rfl
theorem dX12_armIs_176 : decode cX12_armIs 176 = .ok (.ifCond .eq 20, 3) := dq_153 (a := 0) (b := 20) (fd_r fcX12_armIs (by decide +kernel)) rfl
theorem dX12_armIs_179 : decode cX12_armIs 179 = .ok (.aload_n 0, 1) := dq_42 (fd_r fcX12_armIs (by decide +kernel))
theorem dX12_armIs_180 : decode cX12_armIs 180 = .ok (.invokevirtual 337, 3) := dq_182 (a := 1) (b := 81) (fd_r fcX12_armIs (by decide +kernel)) rfl
theorem dX12_armIs_183 : decode cX12_armIs 183 = .ok (.aload_n 0, 1) := dq_42 (fd_r fcX12_armIs (by decide +kernel))
theorem dX12_armIs_184 : decode cX12_armIs 184 = .ok (.getfield 90, 3) := dq_180 (a := 0) (b := 90) (fd_r fcX12_armIs (by decide +kernel)) rfl
theorem dX12_armIs_187 : decode cX12_armIs 187 = .ok (.iload_n 1, 1) := dq_27 (fd_r fcX12_armIs (by decide +kernel))
theorem dX12_armIs_188 : decode cX12_armIs 188 = .ok (.aload_n 0, 1) := dq_42 (fd_r fcX12_armIs (by decide +kernel))
theorem dX12_armIs_189 : decode cX12_armIs 189 = .ok (.iconst 0, 1) := dq_3 (fd_r fcX12_armIs (by decide +kernel))
theorem dX12_armIs_190 : decode cX12_armIs 190 = .ok (.bipush 7, 2) := dq_16 (a := 7) (fd_r fcX12_armIs (by decide +kernel)) rfl
theorem dX12_armIs_192 : decode cX12_armIs 192 = .ok (.invokevirtual 407, 3) := dq_182 (a := 1) (b := 151) (fd_r fcX12_armIs (by decide +kernel)) rfl
theorem dX12_armIs_195 : decode cX12_armIs 195 = .ok (.iastore, 1) := dq_79 (fd_r fcX12_armIs (by decide +kernel))
theorem dX12_armIs_196 : decode cX12_armIs 196 = .ok (.aload_n 0, 1) := dq_42 (fd_r fcX12_armIs (by decide +kernel))
theorem dX12_armIs_197 : decode cX12_armIs 197 = .ok (.getfield 36, 3) := dq_180 (a := 0) (b := 36) (fd_r fcX12_armIs (by decide +kernel)) rfl
theorem dX12_armIs_200 : decode cX12_armIs 200 = .ok (.ifCond .ne 16, 3) := dq_154 (a := 0) (b := 16) (fd_r fcX12_armIs (by decide +kernel)) rfl
theorem dX12_armIs_203 : decode cX12_armIs 203 = .ok (.aload_n 0, 1) := dq_42 (fd_r fcX12_armIs (by decide +kernel))
theorem dX12_armIs_204 : decode cX12_armIs 204 = .ok (.getfield 87, 3) := dq_180 (a := 0) (b := 87) (fd_r fcX12_armIs (by decide +kernel)) rfl
theorem dX12_armIs_207 : decode cX12_armIs 207 = .ok (.aload_n 0, 1) := dq_42 (fd_r fcX12_armIs (by decide +kernel))
theorem dX12_armIs_208 : decode cX12_armIs 208 = .ok (.getfield 124, 3) := dq_180 (a := 0) (b := 124) (fd_r fcX12_armIs (by decide +kernel)) rfl
theorem dX12_armIs_211 : decode cX12_armIs 211 = .ok (.dup2, 1) := dq_92 (fd_r fcX12_armIs (by decide +kernel))
theorem dX12_armIs_212 : decode cX12_armIs 212 = .ok (.iaload, 1) := dq_46 (fd_r fcX12_armIs (by decide +kernel))
theorem dX12_armIs_213 : decode cX12_armIs 213 = .ok (.iconst 1, 1) := dq_4 (fd_r fcX12_armIs (by decide +kernel))
theorem dX12_armIs_214 : decode cX12_armIs 214 = .ok (.iadd, 1) := dq_96 (fd_r fcX12_armIs (by decide +kernel))
theorem dX12_armIs_215 : decode cX12_armIs 215 = .ok (.iastore, 1) := dq_79 (fd_r fcX12_armIs (by decide +kernel))
theorem dX12_armIs_216 : decode cX12_armIs 216 = .ok (.return_, 1) := dq_177 (fd_r fcX12_armIs (by decide +kernel))
theorem dX12_ruleIs_0 : decode cX12_ruleIs 0 = .ok (.aload_n 0, 1) := dq_42 (fd_r fcX12_ruleIs (by decide +kernel))
theorem dX12_ruleIs_1 : decode cX12_ruleIs 1 = .ok (.iconst 0, 1) := dq_3 (fd_r fcX12_ruleIs (by decide +kernel))
theorem dX12_ruleIs_2 : decode cX12_ruleIs 2 = .ok (.invokevirtual 378, 3) := dq_182 (a := 1) (b := 122) (fd_r fcX12_ruleIs (by decide +kernel)) rfl
theorem dX12_ruleIs_5 : decode cX12_ruleIs 5 = .ok (.ifCond .ne 4, 3) := dq_154 (a := 0) (b := 4) (fd_r fcX12_ruleIs (by decide +kernel)) rfl
theorem dX12_ruleIs_8 : decode cX12_ruleIs 8 = .ok (.return_, 1) := dq_177 (fd_r fcX12_ruleIs (by decide +kernel))
theorem dX12_ruleIs_9 : decode cX12_ruleIs 9 = .ok (.aload_n 0, 1) := dq_42 (fd_r fcX12_ruleIs (by decide +kernel))
theorem dX12_ruleIs_10 : decode cX12_ruleIs 10 = .ok (.getfield 93, 3) := dq_180 (a := 0) (b := 93) (fd_r fcX12_ruleIs (by decide +kernel)) rfl
theorem dX12_ruleIs_13 : decode cX12_ruleIs 13 = .ok (.aload_n 0, 1) := dq_42 (fd_r fcX12_ruleIs (by decide +kernel))
theorem dX12_ruleIs_14 : decode cX12_ruleIs 14 = .ok (.getfield 124, 3) := dq_180 (a := 0) (b := 124) (fd_r fcX12_ruleIs (by decide +kernel)) rfl
theorem dX12_ruleIs_17 : decode cX12_ruleIs 17 = .ok (.aload_n 0, 1) := dq_42 (fd_r fcX12_ruleIs (by decide +kernel))
theorem dX12_ruleIs_18 : decode cX12_ruleIs 18 = .ok (.iconst 0, 1) := dq_3 (fd_r fcX12_ruleIs (by decide +kernel))
theorem dX12_ruleIs_19 : decode cX12_ruleIs 19 = .ok (.iconst 3, 1) := dq_6 (fd_r fcX12_ruleIs (by decide +kernel))
theorem dX12_ruleIs_20 : decode cX12_ruleIs 20 = .ok (.invokevirtual 407, 3) := dq_182 (a := 1) (b := 151) (fd_r fcX12_ruleIs (by decide +kernel)) rfl
theorem dX12_ruleIs_23 : decode cX12_ruleIs 23 = .ok (.iastore, 1) := dq_79 (fd_r fcX12_ruleIs (by decide +kernel))
theorem dX12_ruleIs_24 : decode cX12_ruleIs 24 = .ok (.return_, 1) := dq_177 (fd_r fcX12_ruleIs (by decide +kernel))
theorem dX12_budgetIs_0 : decode cX12_budgetIs 0 = .ok (.aload_n 0, 1) := dq_42 (fd_r fcX12_budgetIs (by decide +kernel))
theorem dX12_budgetIs_1 : decode cX12_budgetIs 1 = .ok (.iconst 0, 1) := dq_3 (fd_r fcX12_budgetIs (by decide +kernel))
theorem dX12_budgetIs_2 : decode cX12_budgetIs 2 = .ok (.invokevirtual 378, 3) := dq_182 (a := 1) (b := 122) (fd_r fcX12_budgetIs (by decide +kernel)) rfl
theorem dX12_budgetIs_5 : decode cX12_budgetIs 5 = .ok (.ifCond .ne 4, 3) := dq_154 (a := 0) (b := 4) (fd_r fcX12_budgetIs (by decide +kernel)) rfl
theorem dX12_budgetIs_8 : decode cX12_budgetIs 8 = .ok (.return_, 1) := dq_177 (fd_r fcX12_budgetIs (by decide +kernel))
theorem dX12_budgetIs_9 : decode cX12_budgetIs 9 = .ok (.aload_n 0, 1) := dq_42 (fd_r fcX12_budgetIs (by decide +kernel))
theorem dX12_budgetIs_10 : decode cX12_budgetIs 10 = .ok (.getfield 96, 3) := dq_180 (a := 0) (b := 96) (fd_r fcX12_budgetIs (by decide +kernel)) rfl
theorem dX12_budgetIs_13 : decode cX12_budgetIs 13 = .ok (.aload_n 0, 1) := dq_42 (fd_r fcX12_budgetIs (by decide +kernel))
theorem dX12_budgetIs_14 : decode cX12_budgetIs 14 = .ok (.getfield 124, 3) := dq_180 (a := 0) (b := 124) (fd_r fcX12_budgetIs (by decide +kernel)) rfl
theorem dX12_budgetIs_17 : decode cX12_budgetIs 17 = .ok (.aload_n 0, 1) := dq_42 (fd_r fcX12_budgetIs (by decide +kernel))
theorem dX12_budgetIs_18 : decode cX12_budgetIs 18 = .ok (.iconst 1, 1) := dq_4 (fd_r fcX12_budgetIs (by decide +kernel))
theorem dX12_budgetIs_19 : decode cX12_budgetIs 19 = .ok (.sipush 999, 3) := dq_17 (a := 3) (b := 231) (fd_r fcX12_budgetIs (by decide +kernel)) rfl
theorem dX12_budgetIs_22 : decode cX12_budgetIs 22 = .ok (.invokevirtual 407, 3) := dq_182 (a := 1) (b := 151) (fd_r fcX12_budgetIs (by decide +kernel)) rfl
theorem dX12_budgetIs_25 : decode cX12_budgetIs 25 = .ok (.iastore, 1) := dq_79 (fd_r fcX12_budgetIs (by decide +kernel))
theorem dX12_budgetIs_26 : decode cX12_budgetIs 26 = .ok (.return_, 1) := dq_177 (fd_r fcX12_budgetIs (by decide +kernel))
theorem dX12_statement_0 : decode cX12_statement 0 = .ok (.aload_n 0, 1) := dq_42 (fd_r fcX12_statement (by decide +kernel))
theorem dX12_statement_1 : decode cX12_statement 1 = .ok (.invokevirtual 331, 3) := dq_182 (a := 1) (b := 75) (fd_r fcX12_statement (by decide +kernel)) rfl
theorem dX12_statement_4 : decode cX12_statement 4 = .ok (.aload_n 0, 1) := dq_42 (fd_r fcX12_statement (by decide +kernel))
theorem dX12_statement_5 : decode cX12_statement 5 = .ok (.getfield 36, 3) := dq_180 (a := 0) (b := 36) (fd_r fcX12_statement (by decide +kernel)) rfl
theorem dX12_statement_8 : decode cX12_statement 8 = .ok (.ifCond .le 4, 3) := dq_158 (a := 0) (b := 4) (fd_r fcX12_statement (by decide +kernel)) rfl
theorem dX12_statement_11 : decode cX12_statement 11 = .ok (.return_, 1) := dq_177 (fd_r fcX12_statement (by decide +kernel))
theorem dX12_statement_12 : decode cX12_statement 12 = .ok (.aload_n 0, 1) := dq_42 (fd_r fcX12_statement (by decide +kernel))
theorem dX12_statement_13 : decode cX12_statement 13 = .ok (.ldc2_w 340, 3) := dq_20 (a := 1) (b := 84) (fd_r fcX12_statement (by decide +kernel)) rfl
theorem dX12_statement_16 : decode cX12_statement 16 = .ok (.invokevirtual 386, 3) := dq_182 (a := 1) (b := 130) (fd_r fcX12_statement (by decide +kernel)) rfl
theorem dX12_statement_19 : decode cX12_statement 19 = .ok (.ifCond .eq 10, 3) := dq_153 (a := 0) (b := 10) (fd_r fcX12_statement (by decide +kernel)) rfl
theorem dX12_statement_22 : decode cX12_statement 22 = .ok (.aload_n 0, 1) := dq_42 (fd_r fcX12_statement (by decide +kernel))
theorem dX12_statement_23 : decode cX12_statement 23 = .ok (.invokevirtual 428, 3) := dq_182 (a := 1) (b := 172) (fd_r fcX12_statement (by decide +kernel)) rfl
theorem dX12_statement_26 : decode cX12_statement 26 = .ok (.goto 97, 3) := dq_167 (a := 0) (b := 97) (fd_r fcX12_statement (by decide +kernel)) rfl
theorem dX12_statement_29 : decode cX12_statement 29 = .ok (.aload_n 0, 1) := dq_42 (fd_r fcX12_statement (by decide +kernel))
theorem dX12_statement_30 : decode cX12_statement 30 = .ok (.ldc2_w 342, 3) := dq_20 (a := 1) (b := 86) (fd_r fcX12_statement (by decide +kernel)) rfl
theorem dX12_statement_33 : decode cX12_statement 33 = .ok (.invokevirtual 386, 3) := dq_182 (a := 1) (b := 130) (fd_r fcX12_statement (by decide +kernel)) rfl
theorem dX12_statement_36 : decode cX12_statement 36 = .ok (.ifCond .eq 10, 3) := dq_153 (a := 0) (b := 10) (fd_r fcX12_statement (by decide +kernel)) rfl
theorem dX12_statement_39 : decode cX12_statement 39 = .ok (.aload_n 0, 1) := dq_42 (fd_r fcX12_statement (by decide +kernel))
theorem dX12_statement_40 : decode cX12_statement 40 = .ok (.invokevirtual 431, 3) := dq_182 (a := 1) (b := 175) (fd_r fcX12_statement (by decide +kernel)) rfl
theorem dX12_statement_43 : decode cX12_statement 43 = .ok (.goto 80, 3) := dq_167 (a := 0) (b := 80) (fd_r fcX12_statement (by decide +kernel)) rfl
theorem dX12_statement_46 : decode cX12_statement 46 = .ok (.aload_n 0, 1) := dq_42 (fd_r fcX12_statement (by decide +kernel))
theorem dX12_statement_47 : decode cX12_statement 47 = .ok (.ldc2_w 344, 3) := dq_20 (a := 1) (b := 88) (fd_r fcX12_statement (by decide +kernel)) rfl
theorem dX12_statement_50 : decode cX12_statement 50 = .ok (.invokevirtual 386, 3) := dq_182 (a := 1) (b := 130) (fd_r fcX12_statement (by decide +kernel)) rfl
theorem dX12_statement_53 : decode cX12_statement 53 = .ok (.ifCond .eq 10, 3) := dq_153 (a := 0) (b := 10) (fd_r fcX12_statement (by decide +kernel)) rfl
theorem dX12_statement_56 : decode cX12_statement 56 = .ok (.aload_n 0, 1) := dq_42 (fd_r fcX12_statement (by decide +kernel))
theorem dX12_statement_57 : decode cX12_statement 57 = .ok (.invokevirtual 434, 3) := dq_182 (a := 1) (b := 178) (fd_r fcX12_statement (by decide +kernel)) rfl
theorem dX12_statement_60 : decode cX12_statement 60 = .ok (.goto 63, 3) := dq_167 (a := 0) (b := 63) (fd_r fcX12_statement (by decide +kernel)) rfl
theorem dX12_statement_63 : decode cX12_statement 63 = .ok (.aload_n 0, 1) := dq_42 (fd_r fcX12_statement (by decide +kernel))
theorem dX12_statement_64 : decode cX12_statement 64 = .ok (.ldc2_w 346, 3) := dq_20 (a := 1) (b := 90) (fd_r fcX12_statement (by decide +kernel)) rfl
theorem dX12_statement_67 : decode cX12_statement 67 = .ok (.invokevirtual 386, 3) := dq_182 (a := 1) (b := 130) (fd_r fcX12_statement (by decide +kernel)) rfl
theorem dX12_statement_70 : decode cX12_statement 70 = .ok (.ifCond .eq 10, 3) := dq_153 (a := 0) (b := 10) (fd_r fcX12_statement (by decide +kernel)) rfl
theorem dX12_statement_73 : decode cX12_statement 73 = .ok (.aload_n 0, 1) := dq_42 (fd_r fcX12_statement (by decide +kernel))
theorem dX12_statement_74 : decode cX12_statement 74 = .ok (.invokevirtual 437, 3) := dq_182 (a := 1) (b := 181) (fd_r fcX12_statement (by decide +kernel)) rfl
theorem dX12_statement_77 : decode cX12_statement 77 = .ok (.goto 46, 3) := dq_167 (a := 0) (b := 46) (fd_r fcX12_statement (by decide +kernel)) rfl
theorem dX12_statement_80 : decode cX12_statement 80 = .ok (.aload_n 0, 1) := dq_42 (fd_r fcX12_statement (by decide +kernel))
theorem dX12_statement_81 : decode cX12_statement 81 = .ok (.ldc2_w 350, 3) := dq_20 (a := 1) (b := 94) (fd_r fcX12_statement (by decide +kernel)) rfl
theorem dX12_statement_84 : decode cX12_statement 84 = .ok (.invokevirtual 386, 3) := dq_182 (a := 1) (b := 130) (fd_r fcX12_statement (by decide +kernel)) rfl
theorem dX12_statement_87 : decode cX12_statement 87 = .ok (.ifCond .eq 10, 3) := dq_153 (a := 0) (b := 10) (fd_r fcX12_statement (by decide +kernel)) rfl
theorem dX12_statement_90 : decode cX12_statement 90 = .ok (.aload_n 0, 1) := dq_42 (fd_r fcX12_statement (by decide +kernel))
theorem dX12_statement_91 : decode cX12_statement 91 = .ok (.invokevirtual 440, 3) := dq_182 (a := 1) (b := 184) (fd_r fcX12_statement (by decide +kernel)) rfl
theorem dX12_statement_94 : decode cX12_statement 94 = .ok (.goto 29, 3) := dq_167 (a := 0) (b := 29) (fd_r fcX12_statement (by decide +kernel)) rfl
theorem dX12_statement_97 : decode cX12_statement 97 = .ok (.aload_n 0, 1) := dq_42 (fd_r fcX12_statement (by decide +kernel))
theorem dX12_statement_98 : decode cX12_statement 98 = .ok (.ldc2_w 352, 3) := dq_20 (a := 1) (b := 96) (fd_r fcX12_statement (by decide +kernel)) rfl
theorem dX12_statement_101 : decode cX12_statement 101 = .ok (.invokevirtual 386, 3) := dq_182 (a := 1) (b := 130) (fd_r fcX12_statement (by decide +kernel)) rfl
theorem dX12_statement_104 : decode cX12_statement 104 = .ok (.ifCond .eq 10, 3) := dq_153 (a := 0) (b := 10) (fd_r fcX12_statement (by decide +kernel)) rfl
theorem dX12_statement_107 : decode cX12_statement 107 = .ok (.aload_n 0, 1) := dq_42 (fd_r fcX12_statement (by decide +kernel))
theorem dX12_statement_108 : decode cX12_statement 108 = .ok (.invokevirtual 443, 3) := dq_182 (a := 1) (b := 187) (fd_r fcX12_statement (by decide +kernel)) rfl
theorem dX12_statement_111 : decode cX12_statement 111 = .ok (.goto 12, 3) := dq_167 (a := 0) (b := 12) (fd_r fcX12_statement (by decide +kernel)) rfl
theorem dX12_statement_114 : decode cX12_statement 114 = .ok (.aload_n 0, 1) := dq_42 (fd_r fcX12_statement (by decide +kernel))
theorem dX12_statement_115 : decode cX12_statement 115 = .ok (.iconst 1, 1) := dq_4 (fd_r fcX12_statement (by decide +kernel))
theorem dX12_statement_116 : decode cX12_statement 116 = .ok (.aload_n 0, 1) := dq_42 (fd_r fcX12_statement (by decide +kernel))
theorem dX12_statement_117 : decode cX12_statement 117 = .ok (.getfield 23, 3) := dq_180 (a := 0) (b := 23) (fd_r fcX12_statement (by decide +kernel)) rfl
theorem dX12_statement_120 : decode cX12_statement 120 = .ok (.invokevirtual 320, 3) := dq_182 (a := 1) (b := 64) (fd_r fcX12_statement (by decide +kernel)) rfl
theorem dX12_statement_123 : decode cX12_statement 123 = .ok (.return_, 1) := dq_177 (fd_r fcX12_statement (by decide +kernel))
theorem dX12_finishes_0 : decode cX12_finishes 0 = .ok (.aload_n 0, 1) := dq_42 (fd_r fcX12_finishes (by decide +kernel))
theorem dX12_finishes_1 : decode cX12_finishes 1 = .ok (.invokevirtual 331, 3) := dq_182 (a := 1) (b := 75) (fd_r fcX12_finishes (by decide +kernel)) rfl
theorem dX12_finishes_4 : decode cX12_finishes 4 = .ok (.aload_n 0, 1) := dq_42 (fd_r fcX12_finishes (by decide +kernel))
theorem dX12_finishes_5 : decode cX12_finishes 5 = .ok (.getfield 36, 3) := dq_180 (a := 0) (b := 36) (fd_r fcX12_finishes (by decide +kernel)) rfl
theorem dX12_finishes_8 : decode cX12_finishes 8 = .ok (.ifCond .le 4, 3) := dq_158 (a := 0) (b := 4) (fd_r fcX12_finishes (by decide +kernel)) rfl
theorem dX12_finishes_11 : decode cX12_finishes 11 = .ok (.return_, 1) := dq_177 (fd_r fcX12_finishes (by decide +kernel))
theorem dX12_finishes_12 : decode cX12_finishes 12 = .ok (.aload_n 0, 1) := dq_42 (fd_r fcX12_finishes (by decide +kernel))
theorem dX12_finishes_13 : decode cX12_finishes 13 = .ok (.getfield 26, 3) := dq_180 (a := 0) (b := 26) (fd_r fcX12_finishes (by decide +kernel)) rfl
theorem dX12_finishes_16 : decode cX12_finishes 16 = .ok (.istore_n 2, 1) := dq_61 (fd_r fcX12_finishes (by decide +kernel))
theorem dX12_finishes_17 : decode cX12_finishes 17 = .ok (.iload_n 2, 1) := dq_28 (fd_r fcX12_finishes (by decide +kernel))
theorem dX12_finishes_18 : decode cX12_finishes 18 = .ok (.aload_n 0, 1) := dq_42 (fd_r fcX12_finishes (by decide +kernel))
theorem dX12_finishes_19 : decode cX12_finishes 19 = .ok (.getfield 17, 3) := dq_180 (a := 0) (b := 17) (fd_r fcX12_finishes (by decide +kernel)) rfl
theorem dX12_finishes_22 : decode cX12_finishes 22 = .ok (.if_icmp .ge 31, 3) := dq_162 (a := 0) (b := 31) (fd_r fcX12_finishes (by decide +kernel)) rfl
theorem dX12_finishes_25 : decode cX12_finishes 25 = .ok (.aload_n 0, 1) := dq_42 (fd_r fcX12_finishes (by decide +kernel))
theorem dX12_finishes_26 : decode cX12_finishes 26 = .ok (.getfield 7, 3) := dq_180 (a := 0) (b := 7) (fd_r fcX12_finishes (by decide +kernel)) rfl
theorem dX12_finishes_29 : decode cX12_finishes 29 = .ok (.iload_n 2, 1) := dq_28 (fd_r fcX12_finishes (by decide +kernel))
theorem dX12_finishes_30 : decode cX12_finishes 30 = .ok (.iaload, 1) := dq_46 (fd_r fcX12_finishes (by decide +kernel))
theorem dX12_finishes_31 : decode cX12_finishes 31 = .ok (.bipush 32, 2) := dq_16 (a := 32) (fd_r fcX12_finishes (by decide +kernel)) rfl
theorem dX12_finishes_33 : decode cX12_finishes 33 = .ok (.if_icmp .eq 14, 3) := dq_159 (a := 0) (b := 14) (fd_r fcX12_finishes (by decide +kernel)) rfl
theorem dX12_finishes_36 : decode cX12_finishes 36 = .ok (.aload_n 0, 1) := dq_42 (fd_r fcX12_finishes (by decide +kernel))
theorem dX12_finishes_37 : decode cX12_finishes 37 = .ok (.getfield 7, 3) := dq_180 (a := 0) (b := 7) (fd_r fcX12_finishes (by decide +kernel)) rfl
theorem dX12_finishes_40 : decode cX12_finishes 40 = .ok (.iload_n 2, 1) := dq_28 (fd_r fcX12_finishes (by decide +kernel))
theorem dX12_finishes_41 : decode cX12_finishes 41 = .ok (.iaload, 1) := dq_46 (fd_r fcX12_finishes (by decide +kernel))
theorem dX12_finishes_42 : decode cX12_finishes 42 = .ok (.bipush 10, 2) := dq_16 (a := 10) (fd_r fcX12_finishes (by decide +kernel)) rfl
theorem dX12_finishes_44 : decode cX12_finishes 44 = .ok (.if_icmp .ne 9, 3) := dq_160 (a := 0) (b := 9) (fd_r fcX12_finishes (by decide +kernel)) rfl
theorem dX12_finishes_47 : decode cX12_finishes 47 = .ok (.iinc 2 1, 3) := dq_132 (a := 2) (b := 1) (fd_r fcX12_finishes (by decide +kernel)) rfl
theorem dX12_finishes_50 : decode cX12_finishes 50 = .ok (.goto (-33), 3) := dq_167 (a := 255) (b := 223) (fd_r fcX12_finishes (by decide +kernel)) rfl
theorem dX12_finishes_53 : decode cX12_finishes 53 = .ok (.aload_n 0, 1) := dq_42 (fd_r fcX12_finishes (by decide +kernel))
theorem dX12_finishes_54 : decode cX12_finishes 54 = .ok (.bipush 59, 2) := dq_16 (a := 59) (fd_r fcX12_finishes (by decide +kernel)) rfl
theorem dX12_finishes_56 : decode cX12_finishes 56 = .ok (.invokevirtual 334, 3) := dq_182 (a := 1) (b := 78) (fd_r fcX12_finishes (by decide +kernel)) rfl
theorem dX12_finishes_59 : decode cX12_finishes 59 = .ok (.ifCond .eq 24, 3) := dq_153 (a := 0) (b := 24) (fd_r fcX12_finishes (by decide +kernel)) rfl
theorem dX12_finishes_62 : decode cX12_finishes 62 = .ok (.iload_n 1, 1) := dq_27 (fd_r fcX12_finishes (by decide +kernel))
theorem dX12_finishes_63 : decode cX12_finishes 63 = .ok (.bipush 60, 2) := dq_16 (a := 60) (fd_r fcX12_finishes (by decide +kernel)) rfl
theorem dX12_finishes_65 : decode cX12_finishes 65 = .ok (.if_icmp .ne 18, 3) := dq_160 (a := 0) (b := 18) (fd_r fcX12_finishes (by decide +kernel)) rfl
theorem dX12_finishes_68 : decode cX12_finishes 68 = .ok (.iload_n 2, 1) := dq_28 (fd_r fcX12_finishes (by decide +kernel))
theorem dX12_finishes_69 : decode cX12_finishes 69 = .ok (.aload_n 0, 1) := dq_42 (fd_r fcX12_finishes (by decide +kernel))
theorem dX12_finishes_70 : decode cX12_finishes 70 = .ok (.getfield 17, 3) := dq_180 (a := 0) (b := 17) (fd_r fcX12_finishes (by decide +kernel)) rfl
theorem dX12_finishes_73 : decode cX12_finishes 73 = .ok (.if_icmp .ge 10, 3) := dq_162 (a := 0) (b := 10) (fd_r fcX12_finishes (by decide +kernel)) rfl
theorem dX12_finishes_76 : decode cX12_finishes 76 = .ok (.aload_n 0, 1) := dq_42 (fd_r fcX12_finishes (by decide +kernel))
theorem dX12_finishes_77 : decode cX12_finishes 77 = .ok (.bipush 6, 2) := dq_16 (a := 6) (fd_r fcX12_finishes (by decide +kernel)) rfl
theorem dX12_finishes_79 : decode cX12_finishes 79 = .ok (.iload_n 2, 1) := dq_28 (fd_r fcX12_finishes (by decide +kernel))
theorem dX12_finishes_80 : decode cX12_finishes 80 = .ok (.invokevirtual 320, 3) := dq_182 (a := 1) (b := 64) (fd_r fcX12_finishes (by decide +kernel)) rfl
theorem dX12_finishes_83 : decode cX12_finishes 83 = .ok (.aload_n 0, 1) := dq_42 (fd_r fcX12_finishes (by decide +kernel))
theorem dX12_finishes_84 : decode cX12_finishes 84 = .ok (.bipush 59, 2) := dq_16 (a := 59) (fd_r fcX12_finishes (by decide +kernel)) rfl
theorem dX12_finishes_86 : decode cX12_finishes 86 = .ok (.invokevirtual 413, 3) := dq_182 (a := 1) (b := 157) (fd_r fcX12_finishes (by decide +kernel)) rfl
theorem dX12_finishes_89 : decode cX12_finishes 89 = .ok (.return_, 1) := dq_177 (fd_r fcX12_finishes (by decide +kernel))
theorem dX12_match_0 : decode cX12_match 0 = .ok (.aload_n 0, 1) := dq_42 (fd_r fcX12_match (by decide +kernel))
theorem dX12_match_1 : decode cX12_match 1 = .ok (.aload_n 0, 1) := dq_42 (fd_r fcX12_match (by decide +kernel))
theorem dX12_match_2 : decode cX12_match 2 = .ok (.getfield 13, 3) := dq_180 (a := 0) (b := 13) (fd_r fcX12_match (by decide +kernel)) rfl
theorem dX12_match_5 : decode cX12_match 5 = .ok (.putfield 17, 3) := dq_181 (a := 0) (b := 17) (fd_r fcX12_match (by decide +kernel)) rfl
theorem dX12_match_8 : decode cX12_match 8 = .ok (.aload_n 0, 1) := dq_42 (fd_r fcX12_match (by decide +kernel))
theorem dX12_match_9 : decode cX12_match 9 = .ok (.iconst 0, 1) := dq_3 (fd_r fcX12_match (by decide +kernel))
theorem dX12_match_10 : decode cX12_match 10 = .ok (.putfield 13, 3) := dq_181 (a := 0) (b := 13) (fd_r fcX12_match (by decide +kernel)) rfl
theorem dX12_match_13 : decode cX12_match 13 = .ok (.aload_n 0, 1) := dq_42 (fd_r fcX12_match (by decide +kernel))
theorem dX12_match_14 : decode cX12_match 14 = .ok (.iconst 0, 1) := dq_3 (fd_r fcX12_match (by decide +kernel))
theorem dX12_match_15 : decode cX12_match 15 = .ok (.putfield 26, 3) := dq_181 (a := 0) (b := 26) (fd_r fcX12_match (by decide +kernel)) rfl
theorem dX12_match_18 : decode cX12_match 18 = .ok (.aload_n 0, 1) := dq_42 (fd_r fcX12_match (by decide +kernel))
theorem dX12_match_19 : decode cX12_match 19 = .ok (.iconst 0, 1) := dq_3 (fd_r fcX12_match (by decide +kernel))
theorem dX12_match_20 : decode cX12_match 20 = .ok (.putfield 36, 3) := dq_181 (a := 0) (b := 36) (fd_r fcX12_match (by decide +kernel)) rfl
theorem dX12_match_23 : decode cX12_match 23 = .ok (.aload_n 0, 1) := dq_42 (fd_r fcX12_match (by decide +kernel))
theorem dX12_match_24 : decode cX12_match 24 = .ok (.iconst (-1), 1) := dq_2 (fd_r fcX12_match (by decide +kernel))
theorem dX12_match_25 : decode cX12_match 25 = .ok (.putfield 39, 3) := dq_181 (a := 0) (b := 39) (fd_r fcX12_match (by decide +kernel)) rfl
theorem dX12_match_28 : decode cX12_match 28 = .ok (.aload_n 0, 1) := dq_42 (fd_r fcX12_match (by decide +kernel))
theorem dX12_match_29 : decode cX12_match 29 = .ok (.iconst 1, 1) := dq_4 (fd_r fcX12_match (by decide +kernel))
theorem dX12_match_30 : decode cX12_match 30 = .ok (.aload_n 0, 1) := dq_42 (fd_r fcX12_match (by decide +kernel))
theorem dX12_match_31 : decode cX12_match 31 = .ok (.getfield 51, 3) := dq_180 (a := 0) (b := 51) (fd_r fcX12_match (by decide +kernel)) rfl
theorem dX12_match_34 : decode cX12_match 34 = .ok (.isub, 1) := dq_100 (fd_r fcX12_match (by decide +kernel))
theorem dX12_match_35 : decode cX12_match 35 = .ok (.putfield 124, 3) := dq_181 (a := 0) (b := 124) (fd_r fcX12_match (by decide +kernel)) rfl
theorem dX12_match_38 : decode cX12_match 38 = .ok (.aload_n 0, 1) := dq_42 (fd_r fcX12_match (by decide +kernel))
theorem dX12_match_39 : decode cX12_match 39 = .ok (.getfield 54, 3) := dq_180 (a := 0) (b := 54) (fd_r fcX12_match (by decide +kernel)) rfl
theorem dX12_match_42 : decode cX12_match 42 = .ok (.aload_n 0, 1) := dq_42 (fd_r fcX12_match (by decide +kernel))
theorem dX12_match_43 : decode cX12_match 43 = .ok (.getfield 124, 3) := dq_180 (a := 0) (b := 124) (fd_r fcX12_match (by decide +kernel)) rfl
theorem dX12_match_46 : decode cX12_match 46 = .ok (.iconst 0, 1) := dq_3 (fd_r fcX12_match (by decide +kernel))
theorem dX12_match_47 : decode cX12_match 47 = .ok (.iastore, 1) := dq_79 (fd_r fcX12_match (by decide +kernel))
theorem dX12_match_48 : decode cX12_match 48 = .ok (.aload_n 0, 1) := dq_42 (fd_r fcX12_match (by decide +kernel))
theorem dX12_match_49 : decode cX12_match 49 = .ok (.getfield 63, 3) := dq_180 (a := 0) (b := 63) (fd_r fcX12_match (by decide +kernel)) rfl
theorem dX12_match_52 : decode cX12_match 52 = .ok (.aload_n 0, 1) := dq_42 (fd_r fcX12_match (by decide +kernel))
theorem dX12_match_53 : decode cX12_match 53 = .ok (.getfield 124, 3) := dq_180 (a := 0) (b := 124) (fd_r fcX12_match (by decide +kernel)) rfl
theorem dX12_match_56 : decode cX12_match 56 = .ok (.iconst 0, 1) := dq_3 (fd_r fcX12_match (by decide +kernel))
theorem dX12_match_57 : decode cX12_match 57 = .ok (.iastore, 1) := dq_79 (fd_r fcX12_match (by decide +kernel))
theorem dX12_match_58 : decode cX12_match 58 = .ok (.aload_n 0, 1) := dq_42 (fd_r fcX12_match (by decide +kernel))
theorem dX12_match_59 : decode cX12_match 59 = .ok (.getfield 81, 3) := dq_180 (a := 0) (b := 81) (fd_r fcX12_match (by decide +kernel)) rfl
theorem dX12_match_62 : decode cX12_match 62 = .ok (.aload_n 0, 1) := dq_42 (fd_r fcX12_match (by decide +kernel))
theorem dX12_match_63 : decode cX12_match 63 = .ok (.getfield 124, 3) := dq_180 (a := 0) (b := 124) (fd_r fcX12_match (by decide +kernel)) rfl
theorem dX12_match_66 : decode cX12_match 66 = .ok (.iconst 0, 1) := dq_3 (fd_r fcX12_match (by decide +kernel))
theorem dX12_match_67 : decode cX12_match 67 = .ok (.iastore, 1) := dq_79 (fd_r fcX12_match (by decide +kernel))
theorem dX12_match_68 : decode cX12_match 68 = .ok (.aload_n 0, 1) := dq_42 (fd_r fcX12_match (by decide +kernel))
theorem dX12_match_69 : decode cX12_match 69 = .ok (.getfield 87, 3) := dq_180 (a := 0) (b := 87) (fd_r fcX12_match (by decide +kernel)) rfl
theorem dX12_match_72 : decode cX12_match 72 = .ok (.aload_n 0, 1) := dq_42 (fd_r fcX12_match (by decide +kernel))
theorem dX12_match_73 : decode cX12_match 73 = .ok (.getfield 124, 3) := dq_180 (a := 0) (b := 124) (fd_r fcX12_match (by decide +kernel)) rfl
theorem dX12_match_76 : decode cX12_match 76 = .ok (.iconst 0, 1) := dq_3 (fd_r fcX12_match (by decide +kernel))
theorem dX12_match_77 : decode cX12_match 77 = .ok (.iastore, 1) := dq_79 (fd_r fcX12_match (by decide +kernel))
theorem dX12_match_78 : decode cX12_match 78 = .ok (.aload_n 0, 1) := dq_42 (fd_r fcX12_match (by decide +kernel))
theorem dX12_match_79 : decode cX12_match 79 = .ok (.getfield 93, 3) := dq_180 (a := 0) (b := 93) (fd_r fcX12_match (by decide +kernel)) rfl
theorem dX12_match_82 : decode cX12_match 82 = .ok (.aload_n 0, 1) := dq_42 (fd_r fcX12_match (by decide +kernel))
theorem dX12_match_83 : decode cX12_match 83 = .ok (.getfield 124, 3) := dq_180 (a := 0) (b := 124) (fd_r fcX12_match (by decide +kernel)) rfl
theorem dX12_match_86 : decode cX12_match 86 = .ok (.iconst 0, 1) := dq_3 (fd_r fcX12_match (by decide +kernel))
theorem dX12_match_87 : decode cX12_match 87 = .ok (.iastore, 1) := dq_79 (fd_r fcX12_match (by decide +kernel))
theorem dX12_match_88 : decode cX12_match 88 = .ok (.aload_n 0, 1) := dq_42 (fd_r fcX12_match (by decide +kernel))
theorem dX12_match_89 : decode cX12_match 89 = .ok (.getfield 96, 3) := dq_180 (a := 0) (b := 96) (fd_r fcX12_match (by decide +kernel)) rfl
theorem dX12_match_92 : decode cX12_match 92 = .ok (.aload_n 0, 1) := dq_42 (fd_r fcX12_match (by decide +kernel))
theorem dX12_match_93 : decode cX12_match 93 = .ok (.getfield 124, 3) := dq_180 (a := 0) (b := 124) (fd_r fcX12_match (by decide +kernel)) rfl
theorem dX12_match_96 : decode cX12_match 96 = .ok (.sipush 300, 3) := dq_17 (a := 1) (b := 44) (fd_r fcX12_match (by decide +kernel)) rfl
theorem dX12_match_99 : decode cX12_match 99 = .ok (.iastore, 1) := dq_79 (fd_r fcX12_match (by decide +kernel))
theorem dX12_match_100 : decode cX12_match 100 = .ok (.aload_n 0, 1) := dq_42 (fd_r fcX12_match (by decide +kernel))
theorem dX12_match_101 : decode cX12_match 101 = .ok (.iconst 0, 1) := dq_3 (fd_r fcX12_match (by decide +kernel))
theorem dX12_match_102 : decode cX12_match 102 = .ok (.putfield 127, 3) := dq_181 (a := 0) (b := 127) (fd_r fcX12_match (by decide +kernel)) rfl
theorem dX12_match_105 : decode cX12_match 105 = .ok (.aload_n 0, 1) := dq_42 (fd_r fcX12_match (by decide +kernel))
theorem dX12_match_106 : decode cX12_match 106 = .ok (.iconst 0, 1) := dq_3 (fd_r fcX12_match (by decide +kernel))
theorem dX12_match_107 : decode cX12_match 107 = .ok (.putfield 121, 3) := dq_181 (a := 0) (b := 121) (fd_r fcX12_match (by decide +kernel)) rfl
theorem dX12_match_110 : decode cX12_match 110 = .ok (.iconst 0, 1) := dq_3 (fd_r fcX12_match (by decide +kernel))
theorem dX12_match_111 : decode cX12_match 111 = .ok (.istore_n 1, 1) := dq_60 (fd_r fcX12_match (by decide +kernel))
theorem dX12_match_112 : decode cX12_match 112 = .ok (.aload_n 0, 1) := dq_42 (fd_r fcX12_match (by decide +kernel))
theorem dX12_match_113 : decode cX12_match 113 = .ok (.invokevirtual 337, 3) := dq_182 (a := 1) (b := 81) (fd_r fcX12_match (by decide +kernel)) rfl
theorem dX12_match_116 : decode cX12_match 116 = .ok (.aload_n 0, 1) := dq_42 (fd_r fcX12_match (by decide +kernel))
theorem dX12_match_117 : decode cX12_match 117 = .ok (.getfield 36, 3) := dq_180 (a := 0) (b := 36) (fd_r fcX12_match (by decide +kernel)) rfl
theorem dX12_match_120 : decode cX12_match 120 = .ok (.ifCond .ne 25, 3) := dq_154 (a := 0) (b := 25) (fd_r fcX12_match (by decide +kernel)) rfl
theorem dX12_match_123 : decode cX12_match 123 = .ok (.aload_n 0, 1) := dq_42 (fd_r fcX12_match (by decide +kernel))
theorem dX12_match_124 : decode cX12_match 124 = .ok (.getfield 20, 3) := dq_180 (a := 0) (b := 20) (fd_r fcX12_match (by decide +kernel)) rfl
theorem dX12_match_127 : decode cX12_match 127 = .ok (.ifCond .eq 18, 3) := dq_153 (a := 0) (b := 18) (fd_r fcX12_match (by decide +kernel)) rfl
theorem dX12_match_130 : decode cX12_match 130 = .ok (.aload_n 0, 1) := dq_42 (fd_r fcX12_match (by decide +kernel))
theorem dX12_match_131 : decode cX12_match 131 = .ok (.invokevirtual 446, 3) := dq_182 (a := 1) (b := 190) (fd_r fcX12_match (by decide +kernel)) rfl
theorem dX12_match_134 : decode cX12_match 134 = .ok (.iinc 1 1, 3) := dq_132 (a := 1) (b := 1) (fd_r fcX12_match (by decide +kernel)) rfl
theorem dX12_match_137 : decode cX12_match 137 = .ok (.aload_n 0, 1) := dq_42 (fd_r fcX12_match (by decide +kernel))
theorem dX12_match_138 : decode cX12_match 138 = .ok (.iload_n 1, 1) := dq_27 (fd_r fcX12_match (by decide +kernel))
theorem dX12_match_139 : decode cX12_match 139 = .ok (.invokevirtual 449, 3) := dq_182 (a := 1) (b := 193) (fd_r fcX12_match (by decide +kernel)) rfl
theorem dX12_match_142 : decode cX12_match 142 = .ok (.goto (-26), 3) := dq_167 (a := 255) (b := 230) (fd_r fcX12_match (by decide +kernel)) rfl
theorem dX12_match_145 : decode cX12_match 145 = .ok (.aload_n 0, 1) := dq_42 (fd_r fcX12_match (by decide +kernel))
theorem dX12_match_146 : decode cX12_match 146 = .ok (.getfield 36, 3) := dq_180 (a := 0) (b := 36) (fd_r fcX12_match (by decide +kernel)) rfl
theorem dX12_match_149 : decode cX12_match 149 = .ok (.ifCond .ne 19, 3) := dq_154 (a := 0) (b := 19) (fd_r fcX12_match (by decide +kernel)) rfl
theorem dX12_match_152 : decode cX12_match 152 = .ok (.aload_n 0, 1) := dq_42 (fd_r fcX12_match (by decide +kernel))
theorem dX12_match_153 : decode cX12_match 153 = .ok (.getfield 127, 3) := dq_180 (a := 0) (b := 127) (fd_r fcX12_match (by decide +kernel)) rfl
theorem dX12_match_156 : decode cX12_match 156 = .ok (.ifCond .ne 12, 3) := dq_154 (a := 0) (b := 12) (fd_r fcX12_match (by decide +kernel)) rfl
theorem dX12_match_159 : decode cX12_match 159 = .ok (.aload_n 0, 1) := dq_42 (fd_r fcX12_match (by decide +kernel))
theorem dX12_match_160 : decode cX12_match 160 = .ok (.iconst 1, 1) := dq_4 (fd_r fcX12_match (by decide +kernel))
theorem dX12_match_161 : decode cX12_match 161 = .ok (.aload_n 0, 1) := dq_42 (fd_r fcX12_match (by decide +kernel))
theorem dX12_match_162 : decode cX12_match 162 = .ok (.getfield 17, 3) := dq_180 (a := 0) (b := 17) (fd_r fcX12_match (by decide +kernel)) rfl
theorem dX12_match_165 : decode cX12_match 165 = .ok (.invokevirtual 320, 3) := dq_182 (a := 1) (b := 64) (fd_r fcX12_match (by decide +kernel)) rfl
theorem dX12_match_168 : decode cX12_match 168 = .ok (.aload_n 0, 1) := dq_42 (fd_r fcX12_match (by decide +kernel))
theorem dX12_match_169 : decode cX12_match 169 = .ok (.aload_n 0, 1) := dq_42 (fd_r fcX12_match (by decide +kernel))
theorem dX12_match_170 : decode cX12_match 170 = .ok (.getfield 36, 3) := dq_180 (a := 0) (b := 36) (fd_r fcX12_match (by decide +kernel)) rfl
theorem dX12_match_173 : decode cX12_match 173 = .ok (.putfield 42, 3) := dq_181 (a := 0) (b := 42) (fd_r fcX12_match (by decide +kernel)) rfl
theorem dX12_match_176 : decode cX12_match 176 = .ok (.aload_n 0, 1) := dq_42 (fd_r fcX12_match (by decide +kernel))
theorem dX12_match_177 : decode cX12_match 177 = .ok (.aload_n 0, 1) := dq_42 (fd_r fcX12_match (by decide +kernel))
theorem dX12_match_178 : decode cX12_match 178 = .ok (.getfield 39, 3) := dq_180 (a := 0) (b := 39) (fd_r fcX12_match (by decide +kernel)) rfl
theorem dX12_match_181 : decode cX12_match 181 = .ok (.putfield 45, 3) := dq_181 (a := 0) (b := 45) (fd_r fcX12_match (by decide +kernel)) rfl
theorem dX12_match_184 : decode cX12_match 184 = .ok (.aload_n 0, 1) := dq_42 (fd_r fcX12_match (by decide +kernel))
theorem dX12_match_185 : decode cX12_match 185 = .ok (.getfield 36, 3) := dq_180 (a := 0) (b := 36) (fd_r fcX12_match (by decide +kernel)) rfl
theorem dX12_match_188 : decode cX12_match 188 = .ok (.ifCond .le 9, 3) := dq_158 (a := 0) (b := 9) (fd_r fcX12_match (by decide +kernel)) rfl
theorem dX12_match_191 : decode cX12_match 191 = .ok (.aload_n 0, 1) := dq_42 (fd_r fcX12_match (by decide +kernel))
theorem dX12_match_192 : decode cX12_match 192 = .ok (.iconst 1, 1) := dq_4 (fd_r fcX12_match (by decide +kernel))
theorem dX12_match_193 : decode cX12_match 193 = .ok (.invokevirtual 312, 3) := dq_182 (a := 1) (b := 56) (fd_r fcX12_match (by decide +kernel)) rfl
theorem dX12_match_196 : decode cX12_match 196 = .ok (.ireturn, 1) := dq_172 (fd_r fcX12_match (by decide +kernel))
theorem dX12_match_197 : decode cX12_match 197 = .ok (.aload_n 0, 1) := dq_42 (fd_r fcX12_match (by decide +kernel))
theorem dX12_match_198 : decode cX12_match 198 = .ok (.aload_n 0, 1) := dq_42 (fd_r fcX12_match (by decide +kernel))
theorem dX12_match_199 : decode cX12_match 199 = .ok (.getfield 124, 3) := dq_180 (a := 0) (b := 124) (fd_r fcX12_match (by decide +kernel)) rfl
theorem dX12_match_202 : decode cX12_match 202 = .ok (.putfield 51, 3) := dq_181 (a := 0) (b := 51) (fd_r fcX12_match (by decide +kernel)) rfl
theorem dX12_match_205 : decode cX12_match 205 = .ok (.aload_n 0, 1) := dq_42 (fd_r fcX12_match (by decide +kernel))
theorem dX12_match_206 : decode cX12_match 206 = .ok (.iconst 1, 1) := dq_4 (fd_r fcX12_match (by decide +kernel))
theorem dX12_match_207 : decode cX12_match 207 = .ok (.putfield 146, 3) := dq_181 (a := 0) (b := 146) (fd_r fcX12_match (by decide +kernel)) rfl
theorem dX12_match_210 : decode cX12_match 210 = .ok (.aload_n 0, 1) := dq_42 (fd_r fcX12_match (by decide +kernel))
theorem dX12_match_211 : decode cX12_match 211 = .ok (.invokevirtual 452, 3) := dq_182 (a := 1) (b := 196) (fd_r fcX12_match (by decide +kernel)) rfl
theorem dX12_match_214 : decode cX12_match 214 = .ok (.aload_n 0, 1) := dq_42 (fd_r fcX12_match (by decide +kernel))
theorem dX12_match_215 : decode cX12_match 215 = .ok (.invokevirtual 309, 3) := dq_182 (a := 1) (b := 53) (fd_r fcX12_match (by decide +kernel)) rfl
theorem dX12_match_218 : decode cX12_match 218 = .ok (.iload_n 1, 1) := dq_27 (fd_r fcX12_match (by decide +kernel))
theorem dX12_match_219 : decode cX12_match 219 = .ok (.ireturn, 1) := dq_172 (fd_r fcX12_match (by decide +kernel))
theorem dX12_fault_0 : decode cX12_fault 0 = .ok (.iload_n 1, 1) := dq_27 (fd_r fcX12_fault (by decide +kernel))
theorem dX12_fault_1 : decode cX12_fault 1 = .ok (.ifCond .ne 10, 3) := dq_154 (a := 0) (b := 10) (fd_r fcX12_fault (by decide +kernel)) rfl
theorem dX12_fault_4 : decode cX12_fault 4 = .ok (.aload_n 0, 1) := dq_42 (fd_r fcX12_fault (by decide +kernel))
theorem dX12_fault_5 : decode cX12_fault 5 = .ok (.getfield 42, 3) := dq_180 (a := 0) (b := 42) (fd_r fcX12_fault (by decide +kernel)) rfl
theorem dX12_fault_8 : decode cX12_fault 8 = .ok (.goto 16, 3) := dq_167 (a := 0) (b := 16) (fd_r fcX12_fault (by decide +kernel)) rfl
theorem dX12_fault_11 : decode cX12_fault 11 = .ok (.iload_n 1, 1) := dq_27 (fd_r fcX12_fault (by decide +kernel))
theorem dX12_fault_12 : decode cX12_fault 12 = .ok (.iconst 1, 1) := dq_4 (fd_r fcX12_fault (by decide +kernel))
theorem dX12_fault_13 : decode cX12_fault 13 = .ok (.if_icmp .ne 10, 3) := dq_160 (a := 0) (b := 10) (fd_r fcX12_fault (by decide +kernel)) rfl
theorem dX12_fault_16 : decode cX12_fault 16 = .ok (.aload_n 0, 1) := dq_42 (fd_r fcX12_fault (by decide +kernel))
theorem dX12_fault_17 : decode cX12_fault 17 = .ok (.getfield 45, 3) := dq_180 (a := 0) (b := 45) (fd_r fcX12_fault (by decide +kernel)) rfl
theorem dX12_fault_20 : decode cX12_fault 20 = .ok (.goto 4, 3) := dq_167 (a := 0) (b := 4) (fd_r fcX12_fault (by decide +kernel)) rfl
theorem dX12_fault_23 : decode cX12_fault 23 = .ok (.iconst (-1), 1) := dq_2 (fd_r fcX12_fault (by decide +kernel))
theorem dX12_fault_24 : decode cX12_fault 24 = .ok (.ireturn, 1) := dq_172 (fd_r fcX12_fault (by decide +kernel))
theorem dX12_refuses_0 : decode cX12_refuses 0 = .ok (.aload_n 0, 1) := dq_42 (fd_r fcX12_refuses (by decide +kernel))
theorem dX12_refuses_1 : decode cX12_refuses 1 = .ok (.getfield 149, 3) := dq_180 (a := 0) (b := 149) (fd_r fcX12_refuses (by decide +kernel)) rfl
theorem dX12_refuses_4 : decode cX12_refuses 4 = .ok (.iload_n 1, 1) := dq_27 (fd_r fcX12_refuses (by decide +kernel))
theorem dX12_refuses_5 : decode cX12_refuses 5 = .ok (.dup2, 1) := dq_92 (fd_r fcX12_refuses (by decide +kernel))
theorem dX12_refuses_6 : decode cX12_refuses 6 = .ok (.iaload, 1) := dq_46 (fd_r fcX12_refuses (by decide +kernel))
theorem dX12_refuses_7 : decode cX12_refuses 7 = .ok (.iconst 1, 1) := dq_4 (fd_r fcX12_refuses (by decide +kernel))
theorem dX12_refuses_8 : decode cX12_refuses 8 = .ok (.iadd, 1) := dq_96 (fd_r fcX12_refuses (by decide +kernel))
theorem dX12_refuses_9 : decode cX12_refuses 9 = .ok (.iastore, 1) := dq_79 (fd_r fcX12_refuses (by decide +kernel))
theorem dX12_refuses_10 : decode cX12_refuses 10 = .ok (.iconst (-1), 1) := dq_2 (fd_r fcX12_refuses (by decide +kernel))
theorem dX12_refuses_11 : decode cX12_refuses 11 = .ok (.ireturn, 1) := dq_172 (fd_r fcX12_refuses (by decide +kernel))
theorem dX12_status_0 : decode cX12_status 0 = .ok (.iload_n 1, 1) := dq_27 (fd_r fcX12_status (by decide +kernel))
end
section
theorem dX12_status_1 : decode cX12_status 1 = .ok (.iconst 0, 1) := dq_3 (fd_r fcX12_status (by decide +kernel))
theorem dX12_status_2 : decode cX12_status 2 = .ok (.iconst 5, 1) := dq_8 (fd_r fcX12_status (by decide +kernel))
theorem dX12_status_3 : decode cX12_status 3 = .ok (.invokestatic 362, 3) := dq_184 (a := 1) (b := 106) (fd_r fcX12_status (by decide +kernel)) rfl
theorem dX12_status_6 : decode cX12_status 6 = .ok (.ifCond .eq 12, 3) := dq_153 (a := 0) (b := 12) (fd_r fcX12_status (by decide +kernel)) rfl
theorem dX12_status_9 : decode cX12_status 9 = .ok (.aload_n 0, 1) := dq_42 (fd_r fcX12_status (by decide +kernel))
theorem dX12_status_10 : decode cX12_status 10 = .ok (.getfield 149, 3) := dq_180 (a := 0) (b := 149) (fd_r fcX12_status (by decide +kernel)) rfl
theorem dX12_status_13 : decode cX12_status 13 = .ok (.iload_n 1, 1) := dq_27 (fd_r fcX12_status (by decide +kernel))
theorem dX12_status_14 : decode cX12_status 14 = .ok (.iaload, 1) := dq_46 (fd_r fcX12_status (by decide +kernel))
theorem dX12_status_15 : decode cX12_status 15 = .ok (.goto 4, 3) := dq_167 (a := 0) (b := 4) (fd_r fcX12_status (by decide +kernel)) rfl
theorem dX12_status_18 : decode cX12_status 18 = .ok (.iconst (-1), 1) := dq_2 (fd_r fcX12_status (by decide +kernel))
theorem dX12_status_19 : decode cX12_status 19 = .ok (.ireturn, 1) := dq_172 (fd_r fcX12_status (by decide +kernel))
theorem dX12_fieldOf_0 : decode cX12_fieldOf 0 = .ok (.bipush 24, 2) := dq_16 (a := 24) (fd_r fcX12_fieldOf (by decide +kernel)) rfl
theorem dX12_fieldOf_2 : decode cX12_fieldOf 2 = .ok (.aload_n 0, 1) := dq_42 (fd_r fcX12_fieldOf (by decide +kernel))
theorem dX12_fieldOf_3 : decode cX12_fieldOf 3 = .ok (.getfield 51, 3) := dq_180 (a := 0) (b := 51) (fd_r fcX12_fieldOf (by decide +kernel)) rfl
theorem dX12_fieldOf_6 : decode cX12_fieldOf 6 = .ok (.imul, 1) := dq_104 (fd_r fcX12_fieldOf (by decide +kernel))
theorem dX12_fieldOf_7 : decode cX12_fieldOf 7 = .ok (.iload_n 2, 1) := dq_28 (fd_r fcX12_fieldOf (by decide +kernel))
theorem dX12_fieldOf_8 : decode cX12_fieldOf 8 = .ok (.iadd, 1) := dq_96 (fd_r fcX12_fieldOf (by decide +kernel))
theorem dX12_fieldOf_9 : decode cX12_fieldOf 9 = .ok (.istore 4, 2) := dq_54 (a := 4) (fd_r fcX12_fieldOf (by decide +kernel))
theorem dX12_fieldOf_11 : decode cX12_fieldOf 11 = .ok (.iload_n 1, 1) := dq_27 (fd_r fcX12_fieldOf (by decide +kernel))
theorem dX12_fieldOf_12 : decode cX12_fieldOf 12 = .ok (.aload_n 0, 1) := dq_42 (fd_r fcX12_fieldOf (by decide +kernel))
theorem dX12_fieldOf_13 : decode cX12_fieldOf 13 = .ok (.getfield 75, 3) := dq_180 (a := 0) (b := 75) (fd_r fcX12_fieldOf (by decide +kernel)) rfl
theorem dX12_fieldOf_16 : decode cX12_fieldOf 16 = .ok (.iload 4, 2) := dq_21 (a := 4) (fd_r fcX12_fieldOf (by decide +kernel))
theorem dX12_fieldOf_18 : decode cX12_fieldOf 18 = .ok (.iaload, 1) := dq_46 (fd_r fcX12_fieldOf (by decide +kernel))
theorem dX12_fieldOf_19 : decode cX12_fieldOf 19 = .ok (.if_icmp .lt 22, 3) := dq_161 (a := 0) (b := 22) (fd_r fcX12_fieldOf (by decide +kernel)) rfl
theorem dX12_fieldOf_22 : decode cX12_fieldOf 22 = .ok (.iload_n 1, 1) := dq_27 (fd_r fcX12_fieldOf (by decide +kernel))
theorem dX12_fieldOf_23 : decode cX12_fieldOf 23 = .ok (.aload_n 0, 1) := dq_42 (fd_r fcX12_fieldOf (by decide +kernel))
theorem dX12_fieldOf_24 : decode cX12_fieldOf 24 = .ok (.getfield 75, 3) := dq_180 (a := 0) (b := 75) (fd_r fcX12_fieldOf (by decide +kernel)) rfl
theorem dX12_fieldOf_27 : decode cX12_fieldOf 27 = .ok (.iload 4, 2) := dq_21 (a := 4) (fd_r fcX12_fieldOf (by decide +kernel))
theorem dX12_fieldOf_29 : decode cX12_fieldOf 29 = .ok (.iaload, 1) := dq_46 (fd_r fcX12_fieldOf (by decide +kernel))
theorem dX12_fieldOf_30 : decode cX12_fieldOf 30 = .ok (.aload_n 0, 1) := dq_42 (fd_r fcX12_fieldOf (by decide +kernel))
theorem dX12_fieldOf_31 : decode cX12_fieldOf 31 = .ok (.getfield 78, 3) := dq_180 (a := 0) (b := 78) (fd_r fcX12_fieldOf (by decide +kernel)) rfl
theorem dX12_fieldOf_34 : decode cX12_fieldOf 34 = .ok (.iload 4, 2) := dq_21 (a := 4) (fd_r fcX12_fieldOf (by decide +kernel))
theorem dX12_fieldOf_36 : decode cX12_fieldOf 36 = .ok (.iaload, 1) := dq_46 (fd_r fcX12_fieldOf (by decide +kernel))
theorem dX12_fieldOf_37 : decode cX12_fieldOf 37 = .ok (.iadd, 1) := dq_96 (fd_r fcX12_fieldOf (by decide +kernel))
theorem dX12_fieldOf_38 : decode cX12_fieldOf 38 = .ok (.if_icmp .lt 5, 3) := dq_161 (a := 0) (b := 5) (fd_r fcX12_fieldOf (by decide +kernel)) rfl
theorem dX12_fieldOf_41 : decode cX12_fieldOf 41 = .ok (.iconst (-1), 1) := dq_2 (fd_r fcX12_fieldOf (by decide +kernel))
theorem dX12_fieldOf_42 : decode cX12_fieldOf 42 = .ok (.ireturn, 1) := dq_172 (fd_r fcX12_fieldOf (by decide +kernel))
theorem dX12_fieldOf_43 : decode cX12_fieldOf 43 = .ok (.iload_n 1, 1) := dq_27 (fd_r fcX12_fieldOf (by decide +kernel))
theorem dX12_fieldOf_44 : decode cX12_fieldOf 44 = .ok (.aload_n 0, 1) := dq_42 (fd_r fcX12_fieldOf (by decide +kernel))
theorem dX12_fieldOf_45 : decode cX12_fieldOf 45 = .ok (.getfield 75, 3) := dq_180 (a := 0) (b := 75) (fd_r fcX12_fieldOf (by decide +kernel)) rfl
theorem dX12_fieldOf_48 : decode cX12_fieldOf 48 = .ok (.iload 4, 2) := dq_21 (a := 4) (fd_r fcX12_fieldOf (by decide +kernel))
theorem dX12_fieldOf_50 : decode cX12_fieldOf 50 = .ok (.iaload, 1) := dq_46 (fd_r fcX12_fieldOf (by decide +kernel))
theorem dX12_fieldOf_51 : decode cX12_fieldOf 51 = .ok (.isub, 1) := dq_100 (fd_r fcX12_fieldOf (by decide +kernel))
theorem dX12_fieldOf_52 : decode cX12_fieldOf 52 = .ok (.istore 5, 2) := dq_54 (a := 5) (fd_r fcX12_fieldOf (by decide +kernel))
theorem dX12_fieldOf_54 : decode cX12_fieldOf 54 = .ok (.aload_n 0, 1) := dq_42 (fd_r fcX12_fieldOf (by decide +kernel))
theorem dX12_fieldOf_55 : decode cX12_fieldOf 55 = .ok (.getfield 69, 3) := dq_180 (a := 0) (b := 69) (fd_r fcX12_fieldOf (by decide +kernel)) rfl
theorem dX12_fieldOf_58 : decode cX12_fieldOf 58 = .ok (.iload 4, 2) := dq_21 (a := 4) (fd_r fcX12_fieldOf (by decide +kernel))
theorem dX12_fieldOf_60 : decode cX12_fieldOf 60 = .ok (.iaload, 1) := dq_46 (fd_r fcX12_fieldOf (by decide +kernel))
theorem dX12_fieldOf_61 : decode cX12_fieldOf 61 = .ok (.iconst 1, 1) := dq_4 (fd_r fcX12_fieldOf (by decide +kernel))
theorem dX12_fieldOf_62 : decode cX12_fieldOf 62 = .ok (.if_icmp .ne 6, 3) := dq_160 (a := 0) (b := 6) (fd_r fcX12_fieldOf (by decide +kernel)) rfl
theorem dX12_fieldOf_65 : decode cX12_fieldOf 65 = .ok (.iload 5, 2) := dq_21 (a := 5) (fd_r fcX12_fieldOf (by decide +kernel))
theorem dX12_fieldOf_67 : decode cX12_fieldOf 67 = .ok (.ireturn, 1) := dq_172 (fd_r fcX12_fieldOf (by decide +kernel))
theorem dX12_fieldOf_68 : decode cX12_fieldOf 68 = .ok (.aload_n 0, 1) := dq_42 (fd_r fcX12_fieldOf (by decide +kernel))
theorem dX12_fieldOf_69 : decode cX12_fieldOf 69 = .ok (.aload_n 0, 1) := dq_42 (fd_r fcX12_fieldOf (by decide +kernel))
theorem dX12_fieldOf_70 : decode cX12_fieldOf 70 = .ok (.getfield 51, 3) := dq_180 (a := 0) (b := 51) (fd_r fcX12_fieldOf (by decide +kernel)) rfl
theorem dX12_fieldOf_73 : decode cX12_fieldOf 73 = .ok (.aload_n 0, 1) := dq_42 (fd_r fcX12_fieldOf (by decide +kernel))
theorem dX12_fieldOf_74 : decode cX12_fieldOf 74 = .ok (.getfield 72, 3) := dq_180 (a := 0) (b := 72) (fd_r fcX12_fieldOf (by decide +kernel)) rfl
theorem dX12_fieldOf_77 : decode cX12_fieldOf 77 = .ok (.iconst 2, 1) := dq_5 (fd_r fcX12_fieldOf (by decide +kernel))
theorem dX12_fieldOf_78 : decode cX12_fieldOf 78 = .ok (.iload 4, 2) := dq_21 (a := 4) (fd_r fcX12_fieldOf (by decide +kernel))
theorem dX12_fieldOf_80 : decode cX12_fieldOf 80 = .ok (.imul, 1) := dq_104 (fd_r fcX12_fieldOf (by decide +kernel))
theorem dX12_fieldOf_81 : decode cX12_fieldOf 81 = .ok (.iconst 1, 1) := dq_4 (fd_r fcX12_fieldOf (by decide +kernel))
theorem dX12_fieldOf_82 : decode cX12_fieldOf 82 = .ok (.iadd, 1) := dq_96 (fd_r fcX12_fieldOf (by decide +kernel))
theorem dX12_fieldOf_83 : decode cX12_fieldOf 83 = .ok (.iaload, 1) := dq_46 (fd_r fcX12_fieldOf (by decide +kernel))
theorem dX12_fieldOf_84 : decode cX12_fieldOf 84 = .ok (.invokevirtual 396, 3) := dq_182 (a := 1) (b := 140) (fd_r fcX12_fieldOf (by decide +kernel)) rfl
theorem dX12_fieldOf_87 : decode cX12_fieldOf 87 = .ok (.istore 6, 2) := dq_54 (a := 6) (fd_r fcX12_fieldOf (by decide +kernel))
theorem dX12_fieldOf_89 : decode cX12_fieldOf 89 = .ok (.iload_n 3, 1) := dq_29 (fd_r fcX12_fieldOf (by decide +kernel))
theorem dX12_fieldOf_90 : decode cX12_fieldOf 90 = .ok (.ifCond .ne 11, 3) := dq_154 (a := 0) (b := 11) (fd_r fcX12_fieldOf (by decide +kernel)) rfl
theorem dX12_fieldOf_93 : decode cX12_fieldOf 93 = .ok (.iload 5, 2) := dq_21 (a := 5) (fd_r fcX12_fieldOf (by decide +kernel))
theorem dX12_fieldOf_95 : decode cX12_fieldOf 95 = .ok (.iload 6, 2) := dq_21 (a := 6) (fd_r fcX12_fieldOf (by decide +kernel))
theorem dX12_fieldOf_97 : decode cX12_fieldOf 97 = .ok (.idiv, 1) := dq_108 (fd_r fcX12_fieldOf (by decide +kernel))
theorem dX12_fieldOf_98 : decode cX12_fieldOf 98 = .ok (.goto 8, 3) := dq_167 (a := 0) (b := 8) (fd_r fcX12_fieldOf (by decide +kernel)) rfl
theorem dX12_fieldOf_101 : decode cX12_fieldOf 101 = .ok (.iload 5, 2) := dq_21 (a := 5) (fd_r fcX12_fieldOf (by decide +kernel))
theorem dX12_fieldOf_103 : decode cX12_fieldOf 103 = .ok (.iload 6, 2) := dq_21 (a := 6) (fd_r fcX12_fieldOf (by decide +kernel))
theorem dX12_fieldOf_105 : decode cX12_fieldOf 105 = .ok (.irem, 1) := dq_112 (fd_r fcX12_fieldOf (by decide +kernel))
theorem dX12_fieldOf_106 : decode cX12_fieldOf 106 = .ok (.ireturn, 1) := dq_172 (fd_r fcX12_fieldOf (by decide +kernel))
theorem dX12_isFitting_0 : decode cX12_isFitting 0 = .ok (.iconst 0, 1) := dq_3 (fd_r fcX12_isFitting (by decide +kernel))
theorem dX12_isFitting_1 : decode cX12_isFitting 1 = .ok (.istore 4, 2) := dq_54 (a := 4) (fd_r fcX12_isFitting (by decide +kernel))
theorem dX12_isFitting_3 : decode cX12_isFitting 3 = .ok (.iconst 0, 1) := dq_3 (fd_r fcX12_isFitting (by decide +kernel))
theorem dX12_isFitting_4 : decode cX12_isFitting 4 = .ok (.istore 5, 2) := dq_54 (a := 5) (fd_r fcX12_isFitting (by decide +kernel))
theorem dX12_isFitting_6 : decode cX12_isFitting 6 = .ok (.aload_n 0, 1) := dq_42 (fd_r fcX12_isFitting (by decide +kernel))
theorem dX12_isFitting_7 : decode cX12_isFitting 7 = .ok (.getfield 152, 3) := dq_180 (a := 0) (b := 152) (fd_r fcX12_isFitting (by decide +kernel)) rfl
theorem dX12_isFitting_10 : decode cX12_isFitting 10 = .ok (.iconst 0, 1) := dq_3 (fd_r fcX12_isFitting (by decide +kernel))
theorem dX12_isFitting_11 : decode cX12_isFitting 11 = .ok (.iload_n 3, 1) := dq_29 (fd_r fcX12_isFitting (by decide +kernel))
theorem dX12_isFitting_12 : decode cX12_isFitting 12 = .ok (.iastore, 1) := dq_79 (fd_r fcX12_isFitting (by decide +kernel))
theorem dX12_isFitting_13 : decode cX12_isFitting 13 = .ok (.iconst 4, 1) := dq_7 (fd_r fcX12_isFitting (by decide +kernel))
theorem dX12_isFitting_14 : decode cX12_isFitting 14 = .ok (.bipush 12, 2) := dq_16 (a := 12) (fd_r fcX12_isFitting (by decide +kernel)) rfl
theorem dX12_isFitting_16 : decode cX12_isFitting 16 = .ok (.aload_n 0, 1) := dq_42 (fd_r fcX12_isFitting (by decide +kernel))
theorem dX12_isFitting_17 : decode cX12_isFitting 17 = .ok (.getfield 51, 3) := dq_180 (a := 0) (b := 51) (fd_r fcX12_isFitting (by decide +kernel)) rfl
theorem dX12_isFitting_20 : decode cX12_isFitting 20 = .ok (.imul, 1) := dq_104 (fd_r fcX12_isFitting (by decide +kernel))
theorem dX12_isFitting_21 : decode cX12_isFitting 21 = .ok (.iload_n 1, 1) := dq_27 (fd_r fcX12_isFitting (by decide +kernel))
theorem dX12_isFitting_22 : decode cX12_isFitting 22 = .ok (.iadd, 1) := dq_96 (fd_r fcX12_isFitting (by decide +kernel))
theorem dX12_isFitting_23 : decode cX12_isFitting 23 = .ok (.imul, 1) := dq_104 (fd_r fcX12_isFitting (by decide +kernel))
theorem dX12_isFitting_24 : decode cX12_isFitting 24 = .ok (.iload_n 2, 1) := dq_28 (fd_r fcX12_isFitting (by decide +kernel))
theorem dX12_isFitting_25 : decode cX12_isFitting 25 = .ok (.iadd, 1) := dq_96 (fd_r fcX12_isFitting (by decide +kernel))
theorem dX12_isFitting_26 : decode cX12_isFitting 26 = .ok (.istore 6, 2) := dq_54 (a := 6) (fd_r fcX12_isFitting (by decide +kernel))
theorem dX12_isFitting_28 : decode cX12_isFitting 28 = .ok (.sipush 2800, 3) := dq_17 (a := 10) (b := 240) (fd_r fcX12_isFitting (by decide +kernel)) rfl
theorem dX12_isFitting_31 : decode cX12_isFitting 31 = .ok (.aload_n 0, 1) := dq_42 (fd_r fcX12_isFitting (by decide +kernel))
theorem dX12_isFitting_32 : decode cX12_isFitting 32 = .ok (.getfield 51, 3) := dq_180 (a := 0) (b := 51) (fd_r fcX12_isFitting (by decide +kernel)) rfl
theorem dX12_isFitting_35 : decode cX12_isFitting 35 = .ok (.imul, 1) := dq_104 (fd_r fcX12_isFitting (by decide +kernel))
theorem dX12_isFitting_36 : decode cX12_isFitting 36 = .ok (.aload_n 0, 1) := dq_42 (fd_r fcX12_isFitting (by decide +kernel))
theorem dX12_isFitting_37 : decode cX12_isFitting 37 = .ok (.getfield 99, 3) := dq_180 (a := 0) (b := 99) (fd_r fcX12_isFitting (by decide +kernel)) rfl
theorem dX12_isFitting_40 : decode cX12_isFitting 40 = .ok (.iload 6, 2) := dq_21 (a := 6) (fd_r fcX12_isFitting (by decide +kernel))
theorem dX12_isFitting_42 : decode cX12_isFitting 42 = .ok (.iaload, 1) := dq_46 (fd_r fcX12_isFitting (by decide +kernel))
theorem dX12_isFitting_43 : decode cX12_isFitting 43 = .ok (.iadd, 1) := dq_96 (fd_r fcX12_isFitting (by decide +kernel))
theorem dX12_isFitting_44 : decode cX12_isFitting 44 = .ok (.istore 7, 2) := dq_54 (a := 7) (fd_r fcX12_isFitting (by decide +kernel))
theorem dX12_isFitting_46 : decode cX12_isFitting 46 = .ok (.iload 7, 2) := dq_21 (a := 7) (fd_r fcX12_isFitting (by decide +kernel))
theorem dX12_isFitting_48 : decode cX12_isFitting 48 = .ok (.sipush 2800, 3) := dq_17 (a := 10) (b := 240) (fd_r fcX12_isFitting (by decide +kernel)) rfl
theorem dX12_isFitting_51 : decode cX12_isFitting 51 = .ok (.aload_n 0, 1) := dq_42 (fd_r fcX12_isFitting (by decide +kernel))
theorem dX12_isFitting_52 : decode cX12_isFitting 52 = .ok (.getfield 51, 3) := dq_180 (a := 0) (b := 51) (fd_r fcX12_isFitting (by decide +kernel)) rfl
theorem dX12_isFitting_55 : decode cX12_isFitting 55 = .ok (.imul, 1) := dq_104 (fd_r fcX12_isFitting (by decide +kernel))
theorem dX12_isFitting_56 : decode cX12_isFitting 56 = .ok (.aload_n 0, 1) := dq_42 (fd_r fcX12_isFitting (by decide +kernel))
theorem dX12_isFitting_57 : decode cX12_isFitting 57 = .ok (.getfield 102, 3) := dq_180 (a := 0) (b := 102) (fd_r fcX12_isFitting (by decide +kernel)) rfl
theorem dX12_isFitting_60 : decode cX12_isFitting 60 = .ok (.iload 6, 2) := dq_21 (a := 6) (fd_r fcX12_isFitting (by decide +kernel))
theorem dX12_isFitting_62 : decode cX12_isFitting 62 = .ok (.iaload, 1) := dq_46 (fd_r fcX12_isFitting (by decide +kernel))
theorem dX12_isFitting_63 : decode cX12_isFitting 63 = .ok (.iadd, 1) := dq_96 (fd_r fcX12_isFitting (by decide +kernel))
theorem dX12_isFitting_64 : decode cX12_isFitting 64 = .ok (.if_icmp .ge 283, 3) := dq_162 (a := 1) (b := 27) (fd_r fcX12_isFitting (by decide +kernel)) rfl
theorem dX12_isFitting_67 : decode cX12_isFitting 67 = .ok (.aload_n 0, 1) := dq_42 (fd_r fcX12_isFitting (by decide +kernel))
theorem dX12_isFitting_68 : decode cX12_isFitting 68 = .ok (.getfield 108, 3) := dq_180 (a := 0) (b := 108) (fd_r fcX12_isFitting (by decide +kernel)) rfl
theorem dX12_isFitting_71 : decode cX12_isFitting 71 = .ok (.iload 7, 2) := dq_21 (a := 7) (fd_r fcX12_isFitting (by decide +kernel))
theorem dX12_isFitting_73 : decode cX12_isFitting 73 = .ok (.iaload, 1) := dq_46 (fd_r fcX12_isFitting (by decide +kernel))
theorem dX12_isFitting_74 : decode cX12_isFitting 74 = .ok (.istore 8, 2) := dq_54 (a := 8) (fd_r fcX12_isFitting (by decide +kernel))
theorem dX12_isFitting_76 : decode cX12_isFitting 76 = .ok (.aload_n 0, 1) := dq_42 (fd_r fcX12_isFitting (by decide +kernel))
theorem dX12_isFitting_77 : decode cX12_isFitting 77 = .ok (.getfield 105, 3) := dq_180 (a := 0) (b := 105) (fd_r fcX12_isFitting (by decide +kernel)) rfl
theorem dX12_isFitting_80 : decode cX12_isFitting 80 = .ok (.iload 7, 2) := dq_21 (a := 7) (fd_r fcX12_isFitting (by decide +kernel))
theorem dX12_isFitting_82 : decode cX12_isFitting 82 = .ok (.iaload, 1) := dq_46 (fd_r fcX12_isFitting (by decide +kernel))
theorem dX12_isFitting_83 : decode cX12_isFitting 83 = .ok (.tableswitch 236 0 5 #[37, 51, 91, 170, 205, 211], 37) := by decide +kernel
theorem dX12_isFitting_120 : decode cX12_isFitting 120 = .ok (.aload_n 0, 1) := dq_42 (fd_r fcX12_isFitting (by decide +kernel))
theorem dX12_isFitting_121 : decode cX12_isFitting 121 = .ok (.getfield 155, 3) := dq_180 (a := 0) (b := 155) (fd_r fcX12_isFitting (by decide +kernel)) rfl
theorem dX12_isFitting_124 : decode cX12_isFitting 124 = .ok (.iload 4, 2) := dq_21 (a := 4) (fd_r fcX12_isFitting (by decide +kernel))
theorem dX12_isFitting_126 : decode cX12_isFitting 126 = .ok (.iconst 1, 1) := dq_4 (fd_r fcX12_isFitting (by decide +kernel))
theorem dX12_isFitting_127 : decode cX12_isFitting 127 = .ok (.iastore, 1) := dq_79 (fd_r fcX12_isFitting (by decide +kernel))
theorem dX12_isFitting_128 : decode cX12_isFitting 128 = .ok (.iinc 4 1, 3) := dq_132 (a := 4) (b := 1) (fd_r fcX12_isFitting (by decide +kernel)) rfl
theorem dX12_isFitting_131 : decode cX12_isFitting 131 = .ok (.goto 210, 3) := dq_167 (a := 0) (b := 210) (fd_r fcX12_isFitting (by decide +kernel)) rfl
theorem dX12_isFitting_134 : decode cX12_isFitting 134 = .ok (.aload_n 0, 1) := dq_42 (fd_r fcX12_isFitting (by decide +kernel))
theorem dX12_isFitting_135 : decode cX12_isFitting 135 = .ok (.getfield 155, 3) := dq_180 (a := 0) (b := 155) (fd_r fcX12_isFitting (by decide +kernel)) rfl
theorem dX12_isFitting_138 : decode cX12_isFitting 138 = .ok (.iload 4, 2) := dq_21 (a := 4) (fd_r fcX12_isFitting (by decide +kernel))
theorem dX12_isFitting_140 : decode cX12_isFitting 140 = .ok (.aload_n 0, 1) := dq_42 (fd_r fcX12_isFitting (by decide +kernel))
theorem dX12_isFitting_141 : decode cX12_isFitting 141 = .ok (.getfield 152, 3) := dq_180 (a := 0) (b := 152) (fd_r fcX12_isFitting (by decide +kernel)) rfl
theorem dX12_isFitting_144 : decode cX12_isFitting 144 = .ok (.iload 5, 2) := dq_21 (a := 5) (fd_r fcX12_isFitting (by decide +kernel))
theorem dX12_isFitting_146 : decode cX12_isFitting 146 = .ok (.iaload, 1) := dq_46 (fd_r fcX12_isFitting (by decide +kernel))
theorem dX12_isFitting_147 : decode cX12_isFitting 147 = .ok (.iload 8, 2) := dq_21 (a := 8) (fd_r fcX12_isFitting (by decide +kernel))
theorem dX12_isFitting_149 : decode cX12_isFitting 149 = .ok (.aload_n 0, 1) := dq_42 (fd_r fcX12_isFitting (by decide +kernel))
theorem dX12_isFitting_150 : decode cX12_isFitting 150 = .ok (.getfield 111, 3) := dq_180 (a := 0) (b := 111) (fd_r fcX12_isFitting (by decide +kernel)) rfl
theorem dX12_isFitting_153 : decode cX12_isFitting 153 = .ok (.iload 7, 2) := dq_21 (a := 7) (fd_r fcX12_isFitting (by decide +kernel))
theorem dX12_isFitting_155 : decode cX12_isFitting 155 = .ok (.iaload, 1) := dq_46 (fd_r fcX12_isFitting (by decide +kernel))
theorem dX12_isFitting_156 : decode cX12_isFitting 156 = .ok (.invokestatic 362, 3) := dq_184 (a := 1) (b := 106) (fd_r fcX12_isFitting (by decide +kernel)) rfl
theorem dX12_isFitting_159 : decode cX12_isFitting 159 = .ok (.ifCond .eq 7, 3) := dq_153 (a := 0) (b := 7) (fd_r fcX12_isFitting (by decide +kernel)) rfl
theorem dX12_isFitting_162 : decode cX12_isFitting 162 = .ok (.iconst 1, 1) := dq_4 (fd_r fcX12_isFitting (by decide +kernel))
theorem dX12_isFitting_163 : decode cX12_isFitting 163 = .ok (.goto 4, 3) := dq_167 (a := 0) (b := 4) (fd_r fcX12_isFitting (by decide +kernel)) rfl
theorem dX12_isFitting_166 : decode cX12_isFitting 166 = .ok (.iconst 0, 1) := dq_3 (fd_r fcX12_isFitting (by decide +kernel))
theorem dX12_isFitting_167 : decode cX12_isFitting 167 = .ok (.iastore, 1) := dq_79 (fd_r fcX12_isFitting (by decide +kernel))
theorem dX12_isFitting_168 : decode cX12_isFitting 168 = .ok (.iinc 4 1, 3) := dq_132 (a := 4) (b := 1) (fd_r fcX12_isFitting (by decide +kernel)) rfl
theorem dX12_isFitting_171 : decode cX12_isFitting 171 = .ok (.goto 170, 3) := dq_167 (a := 0) (b := 170) (fd_r fcX12_isFitting (by decide +kernel)) rfl
theorem dX12_isFitting_174 : decode cX12_isFitting 174 = .ok (.aload_n 0, 1) := dq_42 (fd_r fcX12_isFitting (by decide +kernel))
theorem dX12_isFitting_175 : decode cX12_isFitting 175 = .ok (.getfield 155, 3) := dq_180 (a := 0) (b := 155) (fd_r fcX12_isFitting (by decide +kernel)) rfl
theorem dX12_isFitting_178 : decode cX12_isFitting 178 = .ok (.iload 4, 2) := dq_21 (a := 4) (fd_r fcX12_isFitting (by decide +kernel))
theorem dX12_isFitting_180 : decode cX12_isFitting 180 = .ok (.aload_n 0, 1) := dq_42 (fd_r fcX12_isFitting (by decide +kernel))
theorem dX12_isFitting_181 : decode cX12_isFitting 181 = .ok (.getfield 152, 3) := dq_180 (a := 0) (b := 152) (fd_r fcX12_isFitting (by decide +kernel)) rfl
theorem dX12_isFitting_184 : decode cX12_isFitting 184 = .ok (.iload 5, 2) := dq_21 (a := 5) (fd_r fcX12_isFitting (by decide +kernel))
theorem dX12_isFitting_186 : decode cX12_isFitting 186 = .ok (.iaload, 1) := dq_46 (fd_r fcX12_isFitting (by decide +kernel))
theorem dX12_isFitting_187 : decode cX12_isFitting 187 = .ok (.aload_n 0, 1) := dq_42 (fd_r fcX12_isFitting (by decide +kernel))
theorem dX12_isFitting_188 : decode cX12_isFitting 188 = .ok (.getfield 75, 3) := dq_180 (a := 0) (b := 75) (fd_r fcX12_isFitting (by decide +kernel)) rfl
theorem dX12_isFitting_191 : decode cX12_isFitting 191 = .ok (.bipush 24, 2) := dq_16 (a := 24) (fd_r fcX12_isFitting (by decide +kernel)) rfl
theorem dX12_isFitting_193 : decode cX12_isFitting 193 = .ok (.aload_n 0, 1) := dq_42 (fd_r fcX12_isFitting (by decide +kernel))
theorem dX12_isFitting_194 : decode cX12_isFitting 194 = .ok (.getfield 51, 3) := dq_180 (a := 0) (b := 51) (fd_r fcX12_isFitting (by decide +kernel)) rfl
theorem dX12_isFitting_197 : decode cX12_isFitting 197 = .ok (.imul, 1) := dq_104 (fd_r fcX12_isFitting (by decide +kernel))
theorem dX12_isFitting_198 : decode cX12_isFitting 198 = .ok (.iload 8, 2) := dq_21 (a := 8) (fd_r fcX12_isFitting (by decide +kernel))
theorem dX12_isFitting_200 : decode cX12_isFitting 200 = .ok (.iadd, 1) := dq_96 (fd_r fcX12_isFitting (by decide +kernel))
theorem dX12_isFitting_201 : decode cX12_isFitting 201 = .ok (.iaload, 1) := dq_46 (fd_r fcX12_isFitting (by decide +kernel))
theorem dX12_isFitting_202 : decode cX12_isFitting 202 = .ok (.aload_n 0, 1) := dq_42 (fd_r fcX12_isFitting (by decide +kernel))
theorem dX12_isFitting_203 : decode cX12_isFitting 203 = .ok (.getfield 75, 3) := dq_180 (a := 0) (b := 75) (fd_r fcX12_isFitting (by decide +kernel)) rfl
theorem dX12_isFitting_206 : decode cX12_isFitting 206 = .ok (.bipush 24, 2) := dq_16 (a := 24) (fd_r fcX12_isFitting (by decide +kernel)) rfl
theorem dX12_isFitting_208 : decode cX12_isFitting 208 = .ok (.aload_n 0, 1) := dq_42 (fd_r fcX12_isFitting (by decide +kernel))
theorem dX12_isFitting_209 : decode cX12_isFitting 209 = .ok (.getfield 51, 3) := dq_180 (a := 0) (b := 51) (fd_r fcX12_isFitting (by decide +kernel)) rfl
theorem dX12_isFitting_212 : decode cX12_isFitting 212 = .ok (.imul, 1) := dq_104 (fd_r fcX12_isFitting (by decide +kernel))
theorem dX12_isFitting_213 : decode cX12_isFitting 213 = .ok (.iload 8, 2) := dq_21 (a := 8) (fd_r fcX12_isFitting (by decide +kernel))
theorem dX12_isFitting_215 : decode cX12_isFitting 215 = .ok (.iadd, 1) := dq_96 (fd_r fcX12_isFitting (by decide +kernel))
theorem dX12_isFitting_216 : decode cX12_isFitting 216 = .ok (.iaload, 1) := dq_46 (fd_r fcX12_isFitting (by decide +kernel))
theorem dX12_isFitting_217 : decode cX12_isFitting 217 = .ok (.aload_n 0, 1) := dq_42 (fd_r fcX12_isFitting (by decide +kernel))
theorem dX12_isFitting_218 : decode cX12_isFitting 218 = .ok (.getfield 78, 3) := dq_180 (a := 0) (b := 78) (fd_r fcX12_isFitting (by decide +kernel)) rfl
theorem dX12_isFitting_221 : decode cX12_isFitting 221 = .ok (.bipush 24, 2) := dq_16 (a := 24) (fd_r fcX12_isFitting (by decide +kernel)) rfl
theorem dX12_isFitting_223 : decode cX12_isFitting 223 = .ok (.aload_n 0, 1) := dq_42 (fd_r fcX12_isFitting (by decide +kernel))
theorem dX12_isFitting_224 : decode cX12_isFitting 224 = .ok (.getfield 51, 3) := dq_180 (a := 0) (b := 51) (fd_r fcX12_isFitting (by decide +kernel)) rfl
theorem dX12_isFitting_227 : decode cX12_isFitting 227 = .ok (.imul, 1) := dq_104 (fd_r fcX12_isFitting (by decide +kernel))
theorem dX12_isFitting_228 : decode cX12_isFitting 228 = .ok (.iload 8, 2) := dq_21 (a := 8) (fd_r fcX12_isFitting (by decide +kernel))
theorem dX12_isFitting_230 : decode cX12_isFitting 230 = .ok (.iadd, 1) := dq_96 (fd_r fcX12_isFitting (by decide +kernel))
theorem dX12_isFitting_231 : decode cX12_isFitting 231 = .ok (.iaload, 1) := dq_46 (fd_r fcX12_isFitting (by decide +kernel))
theorem dX12_isFitting_232 : decode cX12_isFitting 232 = .ok (.iadd, 1) := dq_96 (fd_r fcX12_isFitting (by decide +kernel))
theorem dX12_isFitting_233 : decode cX12_isFitting 233 = .ok (.iconst 1, 1) := dq_4 (fd_r fcX12_isFitting (by decide +kernel))
theorem dX12_isFitting_234 : decode cX12_isFitting 234 = .ok (.isub, 1) := dq_100 (fd_r fcX12_isFitting (by decide +kernel))
theorem dX12_isFitting_235 : decode cX12_isFitting 235 = .ok (.invokestatic 362, 3) := dq_184 (a := 1) (b := 106) (fd_r fcX12_isFitting (by decide +kernel)) rfl
theorem dX12_isFitting_238 : decode cX12_isFitting 238 = .ok (.ifCond .eq 7, 3) := dq_153 (a := 0) (b := 7) (fd_r fcX12_isFitting (by decide +kernel)) rfl
theorem dX12_isFitting_241 : decode cX12_isFitting 241 = .ok (.iconst 1, 1) := dq_4 (fd_r fcX12_isFitting (by decide +kernel))
theorem dX12_isFitting_242 : decode cX12_isFitting 242 = .ok (.goto 4, 3) := dq_167 (a := 0) (b := 4) (fd_r fcX12_isFitting (by decide +kernel)) rfl
theorem dX12_isFitting_245 : decode cX12_isFitting 245 = .ok (.iconst 0, 1) := dq_3 (fd_r fcX12_isFitting (by decide +kernel))
theorem dX12_isFitting_246 : decode cX12_isFitting 246 = .ok (.iastore, 1) := dq_79 (fd_r fcX12_isFitting (by decide +kernel))
theorem dX12_isFitting_247 : decode cX12_isFitting 247 = .ok (.iinc 4 1, 3) := dq_132 (a := 4) (b := 1) (fd_r fcX12_isFitting (by decide +kernel)) rfl
theorem dX12_isFitting_250 : decode cX12_isFitting 250 = .ok (.goto 91, 3) := dq_167 (a := 0) (b := 91) (fd_r fcX12_isFitting (by decide +kernel)) rfl
theorem dX12_isFitting_253 : decode cX12_isFitting 253 = .ok (.aload_n 0, 1) := dq_42 (fd_r fcX12_isFitting (by decide +kernel))
theorem dX12_isFitting_254 : decode cX12_isFitting 254 = .ok (.getfield 152, 3) := dq_180 (a := 0) (b := 152) (fd_r fcX12_isFitting (by decide +kernel)) rfl
theorem dX12_isFitting_257 : decode cX12_isFitting 257 = .ok (.iload 5, 2) := dq_21 (a := 5) (fd_r fcX12_isFitting (by decide +kernel))
theorem dX12_isFitting_259 : decode cX12_isFitting 259 = .ok (.iconst 1, 1) := dq_4 (fd_r fcX12_isFitting (by decide +kernel))
theorem dX12_isFitting_260 : decode cX12_isFitting 260 = .ok (.iadd, 1) := dq_96 (fd_r fcX12_isFitting (by decide +kernel))
theorem dX12_isFitting_261 : decode cX12_isFitting 261 = .ok (.aload_n 0, 1) := dq_42 (fd_r fcX12_isFitting (by decide +kernel))
theorem dX12_isFitting_262 : decode cX12_isFitting 262 = .ok (.aload_n 0, 1) := dq_42 (fd_r fcX12_isFitting (by decide +kernel))
theorem dX12_isFitting_263 : decode cX12_isFitting 263 = .ok (.getfield 152, 3) := dq_180 (a := 0) (b := 152) (fd_r fcX12_isFitting (by decide +kernel)) rfl
theorem dX12_isFitting_266 : decode cX12_isFitting 266 = .ok (.iload 5, 2) := dq_21 (a := 5) (fd_r fcX12_isFitting (by decide +kernel))
theorem dX12_isFitting_268 : decode cX12_isFitting 268 = .ok (.iaload, 1) := dq_46 (fd_r fcX12_isFitting (by decide +kernel))
theorem dX12_isFitting_269 : decode cX12_isFitting 269 = .ok (.iload 8, 2) := dq_21 (a := 8) (fd_r fcX12_isFitting (by decide +kernel))
theorem dX12_isFitting_271 : decode cX12_isFitting 271 = .ok (.aload_n 0, 1) := dq_42 (fd_r fcX12_isFitting (by decide +kernel))
theorem dX12_isFitting_272 : decode cX12_isFitting 272 = .ok (.getfield 111, 3) := dq_180 (a := 0) (b := 111) (fd_r fcX12_isFitting (by decide +kernel)) rfl
theorem dX12_isFitting_275 : decode cX12_isFitting 275 = .ok (.iload 7, 2) := dq_21 (a := 7) (fd_r fcX12_isFitting (by decide +kernel))
theorem dX12_isFitting_277 : decode cX12_isFitting 277 = .ok (.iaload, 1) := dq_46 (fd_r fcX12_isFitting (by decide +kernel))
theorem dX12_isFitting_278 : decode cX12_isFitting 278 = .ok (.invokevirtual 455, 3) := dq_182 (a := 1) (b := 199) (fd_r fcX12_isFitting (by decide +kernel)) rfl
theorem dX12_isFitting_281 : decode cX12_isFitting 281 = .ok (.iastore, 1) := dq_79 (fd_r fcX12_isFitting (by decide +kernel))
theorem dX12_isFitting_282 : decode cX12_isFitting 282 = .ok (.iinc 5 1, 3) := dq_132 (a := 5) (b := 1) (fd_r fcX12_isFitting (by decide +kernel)) rfl
theorem dX12_isFitting_285 : decode cX12_isFitting 285 = .ok (.goto 56, 3) := dq_167 (a := 0) (b := 56) (fd_r fcX12_isFitting (by decide +kernel)) rfl
theorem dX12_isFitting_288 : decode cX12_isFitting 288 = .ok (.iinc 5 (-1), 3) := dq_132 (a := 5) (b := 255) (fd_r fcX12_isFitting (by decide +kernel)) rfl
theorem dX12_isFitting_291 : decode cX12_isFitting 291 = .ok (.goto 50, 3) := dq_167 (a := 0) (b := 50) (fd_r fcX12_isFitting (by decide +kernel)) rfl
theorem dX12_isFitting_294 : decode cX12_isFitting 294 = .ok (.iinc 4 (-1), 3) := dq_132 (a := 4) (b := 255) (fd_r fcX12_isFitting (by decide +kernel)) rfl
theorem dX12_isFitting_297 : decode cX12_isFitting 297 = .ok (.aload_n 0, 1) := dq_42 (fd_r fcX12_isFitting (by decide +kernel))
theorem dX12_isFitting_298 : decode cX12_isFitting 298 = .ok (.getfield 155, 3) := dq_180 (a := 0) (b := 155) (fd_r fcX12_isFitting (by decide +kernel)) rfl
theorem dX12_isFitting_301 : decode cX12_isFitting 301 = .ok (.iload 4, 2) := dq_21 (a := 4) (fd_r fcX12_isFitting (by decide +kernel))
theorem dX12_isFitting_303 : decode cX12_isFitting 303 = .ok (.iconst 1, 1) := dq_4 (fd_r fcX12_isFitting (by decide +kernel))
theorem dX12_isFitting_304 : decode cX12_isFitting 304 = .ok (.isub, 1) := dq_100 (fd_r fcX12_isFitting (by decide +kernel))
theorem dX12_isFitting_305 : decode cX12_isFitting 305 = .ok (.dup2, 1) := dq_92 (fd_r fcX12_isFitting (by decide +kernel))
theorem dX12_isFitting_306 : decode cX12_isFitting 306 = .ok (.iaload, 1) := dq_46 (fd_r fcX12_isFitting (by decide +kernel))
theorem dX12_isFitting_307 : decode cX12_isFitting 307 = .ok (.aload_n 0, 1) := dq_42 (fd_r fcX12_isFitting (by decide +kernel))
theorem dX12_isFitting_308 : decode cX12_isFitting 308 = .ok (.getfield 155, 3) := dq_180 (a := 0) (b := 155) (fd_r fcX12_isFitting (by decide +kernel)) rfl
theorem dX12_isFitting_311 : decode cX12_isFitting 311 = .ok (.iload 4, 2) := dq_21 (a := 4) (fd_r fcX12_isFitting (by decide +kernel))
theorem dX12_isFitting_313 : decode cX12_isFitting 313 = .ok (.iaload, 1) := dq_46 (fd_r fcX12_isFitting (by decide +kernel))
theorem dX12_isFitting_314 : decode cX12_isFitting 314 = .ok (.iand, 1) := dq_126 (fd_r fcX12_isFitting (by decide +kernel))
theorem dX12_isFitting_315 : decode cX12_isFitting 315 = .ok (.iastore, 1) := dq_79 (fd_r fcX12_isFitting (by decide +kernel))
theorem dX12_isFitting_316 : decode cX12_isFitting 316 = .ok (.goto 25, 3) := dq_167 (a := 0) (b := 25) (fd_r fcX12_isFitting (by decide +kernel)) rfl
theorem dX12_isFitting_319 : decode cX12_isFitting 319 = .ok (.iinc 4 (-1), 3) := dq_132 (a := 4) (b := 255) (fd_r fcX12_isFitting (by decide +kernel)) rfl
theorem dX12_isFitting_322 : decode cX12_isFitting 322 = .ok (.aload_n 0, 1) := dq_42 (fd_r fcX12_isFitting (by decide +kernel))
theorem dX12_isFitting_323 : decode cX12_isFitting 323 = .ok (.getfield 155, 3) := dq_180 (a := 0) (b := 155) (fd_r fcX12_isFitting (by decide +kernel)) rfl
theorem dX12_isFitting_326 : decode cX12_isFitting 326 = .ok (.iload 4, 2) := dq_21 (a := 4) (fd_r fcX12_isFitting (by decide +kernel))
theorem dX12_isFitting_328 : decode cX12_isFitting 328 = .ok (.iconst 1, 1) := dq_4 (fd_r fcX12_isFitting (by decide +kernel))
theorem dX12_isFitting_329 : decode cX12_isFitting 329 = .ok (.isub, 1) := dq_100 (fd_r fcX12_isFitting (by decide +kernel))
theorem dX12_isFitting_330 : decode cX12_isFitting 330 = .ok (.dup2, 1) := dq_92 (fd_r fcX12_isFitting (by decide +kernel))
theorem dX12_isFitting_331 : decode cX12_isFitting 331 = .ok (.iaload, 1) := dq_46 (fd_r fcX12_isFitting (by decide +kernel))
theorem dX12_isFitting_332 : decode cX12_isFitting 332 = .ok (.aload_n 0, 1) := dq_42 (fd_r fcX12_isFitting (by decide +kernel))
theorem dX12_isFitting_333 : decode cX12_isFitting 333 = .ok (.getfield 155, 3) := dq_180 (a := 0) (b := 155) (fd_r fcX12_isFitting (by decide +kernel)) rfl
theorem dX12_isFitting_336 : decode cX12_isFitting 336 = .ok (.iload 4, 2) := dq_21 (a := 4) (fd_r fcX12_isFitting (by decide +kernel))
theorem dX12_isFitting_338 : decode cX12_isFitting 338 = .ok (.iaload, 1) := dq_46 (fd_r fcX12_isFitting (by decide +kernel))
theorem dX12_isFitting_339 : decode cX12_isFitting 339 = .ok (.ior, 1) := dq_128 (fd_r fcX12_isFitting (by decide +kernel))
theorem dX12_isFitting_340 : decode cX12_isFitting 340 = .ok (.iastore, 1) := dq_79 (fd_r fcX12_isFitting (by decide +kernel))
theorem dX12_isFitting_341 : decode cX12_isFitting 341 = .ok (.iinc 7 1, 3) := dq_132 (a := 7) (b := 1) (fd_r fcX12_isFitting (by decide +kernel)) rfl
theorem dX12_isFitting_344 : decode cX12_isFitting 344 = .ok (.goto (-298), 3) := dq_167 (a := 254) (b := 214) (fd_r fcX12_isFitting (by decide +kernel)) rfl
theorem dX12_isFitting_347 : decode cX12_isFitting 347 = .ok (.aload_n 0, 1) := dq_42 (fd_r fcX12_isFitting (by decide +kernel))
theorem dX12_isFitting_348 : decode cX12_isFitting 348 = .ok (.getfield 155, 3) := dq_180 (a := 0) (b := 155) (fd_r fcX12_isFitting (by decide +kernel)) rfl
theorem dX12_isFitting_351 : decode cX12_isFitting 351 = .ok (.iconst 0, 1) := dq_3 (fd_r fcX12_isFitting (by decide +kernel))
theorem dX12_isFitting_352 : decode cX12_isFitting 352 = .ok (.iaload, 1) := dq_46 (fd_r fcX12_isFitting (by decide +kernel))
theorem dX12_isFitting_353 : decode cX12_isFitting 353 = .ok (.iconst 1, 1) := dq_4 (fd_r fcX12_isFitting (by decide +kernel))
theorem dX12_isFitting_354 : decode cX12_isFitting 354 = .ok (.if_icmp .ne 7, 3) := dq_160 (a := 0) (b := 7) (fd_r fcX12_isFitting (by decide +kernel)) rfl
theorem dX12_isFitting_357 : decode cX12_isFitting 357 = .ok (.iconst 1, 1) := dq_4 (fd_r fcX12_isFitting (by decide +kernel))
theorem dX12_isFitting_358 : decode cX12_isFitting 358 = .ok (.goto 4, 3) := dq_167 (a := 0) (b := 4) (fd_r fcX12_isFitting (by decide +kernel)) rfl
theorem dX12_isFitting_361 : decode cX12_isFitting 361 = .ok (.iconst 0, 1) := dq_3 (fd_r fcX12_isFitting (by decide +kernel))
theorem dX12_isFitting_362 : decode cX12_isFitting 362 = .ok (.ireturn, 1) := dq_172 (fd_r fcX12_isFitting (by decide +kernel))
theorem dX12_columns_0 : decode cX12_columns 0 = .ok (.aload_n 0, 1) := dq_42 (fd_r fcX12_columns (by decide +kernel))
theorem dX12_columns_1 : decode cX12_columns 1 = .ok (.getfield 81, 3) := dq_180 (a := 0) (b := 81) (fd_r fcX12_columns (by decide +kernel)) rfl
theorem dX12_columns_4 : decode cX12_columns 4 = .ok (.aload_n 0, 1) := dq_42 (fd_r fcX12_columns (by decide +kernel))
theorem dX12_columns_5 : decode cX12_columns 5 = .ok (.getfield 51, 3) := dq_180 (a := 0) (b := 51) (fd_r fcX12_columns (by decide +kernel)) rfl
theorem dX12_columns_8 : decode cX12_columns 8 = .ok (.iaload, 1) := dq_46 (fd_r fcX12_columns (by decide +kernel))
theorem dX12_columns_9 : decode cX12_columns 9 = .ok (.ireturn, 1) := dq_172 (fd_r fcX12_columns (by decide +kernel))
theorem dX12_columnValues_0 : decode cX12_columnValues 0 = .ok (.aload_n 0, 1) := dq_42 (fd_r fcX12_columnValues (by decide +kernel))
theorem dX12_columnValues_1 : decode cX12_columnValues 1 = .ok (.aload_n 0, 1) := dq_42 (fd_r fcX12_columnValues (by decide +kernel))
theorem dX12_columnValues_2 : decode cX12_columnValues 2 = .ok (.getfield 51, 3) := dq_180 (a := 0) (b := 51) (fd_r fcX12_columnValues (by decide +kernel)) rfl
theorem dX12_columnValues_5 : decode cX12_columnValues 5 = .ok (.aload_n 0, 1) := dq_42 (fd_r fcX12_columnValues (by decide +kernel))
theorem dX12_columnValues_6 : decode cX12_columnValues 6 = .ok (.getfield 84, 3) := dq_180 (a := 0) (b := 84) (fd_r fcX12_columnValues (by decide +kernel)) rfl
theorem dX12_columnValues_9 : decode cX12_columnValues 9 = .ok (.iconst 4, 1) := dq_7 (fd_r fcX12_columnValues (by decide +kernel))
theorem dX12_columnValues_10 : decode cX12_columnValues 10 = .ok (.aload_n 0, 1) := dq_42 (fd_r fcX12_columnValues (by decide +kernel))
theorem dX12_columnValues_11 : decode cX12_columnValues 11 = .ok (.getfield 51, 3) := dq_180 (a := 0) (b := 51) (fd_r fcX12_columnValues (by decide +kernel)) rfl
theorem dX12_columnValues_14 : decode cX12_columnValues 14 = .ok (.imul, 1) := dq_104 (fd_r fcX12_columnValues (by decide +kernel))
theorem dX12_columnValues_15 : decode cX12_columnValues 15 = .ok (.iload_n 1, 1) := dq_27 (fd_r fcX12_columnValues (by decide +kernel))
theorem dX12_columnValues_16 : decode cX12_columnValues 16 = .ok (.iadd, 1) := dq_96 (fd_r fcX12_columnValues (by decide +kernel))
theorem dX12_columnValues_17 : decode cX12_columnValues 17 = .ok (.iaload, 1) := dq_46 (fd_r fcX12_columnValues (by decide +kernel))
theorem dX12_columnValues_18 : decode cX12_columnValues 18 = .ok (.invokevirtual 396, 3) := dq_182 (a := 1) (b := 140) (fd_r fcX12_columnValues (by decide +kernel)) rfl
theorem dX12_columnValues_21 : decode cX12_columnValues 21 = .ok (.ireturn, 1) := dq_172 (fd_r fcX12_columnValues (by decide +kernel))
theorem dX12_lays_0 : decode cX12_lays 0 = .ok (.aload_n 0, 1) := dq_42 (fd_r fcX12_lays (by decide +kernel))
theorem dX12_lays_1 : decode cX12_lays 1 = .ok (.iconst 1, 1) := dq_4 (fd_r fcX12_lays (by decide +kernel))
theorem dX12_lays_2 : decode cX12_lays 2 = .ok (.putfield 170, 3) := dq_181 (a := 0) (b := 170) (fd_r fcX12_lays (by decide +kernel)) rfl
theorem dX12_lays_5 : decode cX12_lays 5 = .ok (.iconst 0, 1) := dq_3 (fd_r fcX12_lays (by decide +kernel))
theorem dX12_lays_6 : decode cX12_lays 6 = .ok (.istore_n 1, 1) := dq_60 (fd_r fcX12_lays (by decide +kernel))
theorem dX12_lays_7 : decode cX12_lays 7 = .ok (.iload_n 1, 1) := dq_27 (fd_r fcX12_lays (by decide +kernel))
theorem dX12_lays_8 : decode cX12_lays 8 = .ok (.aload_n 0, 1) := dq_42 (fd_r fcX12_lays (by decide +kernel))
theorem dX12_lays_9 : decode cX12_lays 9 = .ok (.invokevirtual 459, 3) := dq_182 (a := 1) (b := 203) (fd_r fcX12_lays (by decide +kernel)) rfl
theorem dX12_lays_12 : decode cX12_lays 12 = .ok (.if_icmp .ge 184, 3) := dq_162 (a := 0) (b := 184) (fd_r fcX12_lays (by decide +kernel)) rfl
theorem dX12_lays_15 : decode cX12_lays 15 = .ok (.iconst 0, 1) := dq_3 (fd_r fcX12_lays (by decide +kernel))
theorem dX12_lays_16 : decode cX12_lays 16 = .ok (.istore_n 2, 1) := dq_61 (fd_r fcX12_lays (by decide +kernel))
theorem dX12_lays_17 : decode cX12_lays 17 = .ok (.iload_n 2, 1) := dq_28 (fd_r fcX12_lays (by decide +kernel))
theorem dX12_lays_18 : decode cX12_lays 18 = .ok (.sipush 4096, 3) := dq_17 (a := 16) (b := 0) (fd_r fcX12_lays (by decide +kernel)) rfl
theorem dX12_lays_21 : decode cX12_lays 21 = .ok (.if_icmp .ge 16, 3) := dq_162 (a := 0) (b := 16) (fd_r fcX12_lays (by decide +kernel)) rfl
theorem dX12_lays_24 : decode cX12_lays 24 = .ok (.aload_n 0, 1) := dq_42 (fd_r fcX12_lays (by decide +kernel))
theorem dX12_lays_25 : decode cX12_lays 25 = .ok (.getfield 167, 3) := dq_180 (a := 0) (b := 167) (fd_r fcX12_lays (by decide +kernel)) rfl
theorem dX12_lays_28 : decode cX12_lays 28 = .ok (.iload_n 2, 1) := dq_28 (fd_r fcX12_lays (by decide +kernel))
theorem dX12_lays_29 : decode cX12_lays 29 = .ok (.iconst (-1), 1) := dq_2 (fd_r fcX12_lays (by decide +kernel))
theorem dX12_lays_30 : decode cX12_lays 30 = .ok (.iastore, 1) := dq_79 (fd_r fcX12_lays (by decide +kernel))
theorem dX12_lays_31 : decode cX12_lays 31 = .ok (.iinc 2 1, 3) := dq_132 (a := 2) (b := 1) (fd_r fcX12_lays (by decide +kernel)) rfl
theorem dX12_lays_34 : decode cX12_lays 34 = .ok (.goto (-17), 3) := dq_167 (a := 255) (b := 239) (fd_r fcX12_lays (by decide +kernel)) rfl
theorem dX12_lays_37 : decode cX12_lays 37 = .ok (.aload_n 0, 1) := dq_42 (fd_r fcX12_lays (by decide +kernel))
theorem dX12_lays_38 : decode cX12_lays 38 = .ok (.getfield 164, 3) := dq_180 (a := 0) (b := 164) (fd_r fcX12_lays (by decide +kernel)) rfl
theorem dX12_lays_41 : decode cX12_lays 41 = .ok (.iload_n 1, 1) := dq_27 (fd_r fcX12_lays (by decide +kernel))
theorem dX12_lays_42 : decode cX12_lays 42 = .ok (.iconst 0, 1) := dq_3 (fd_r fcX12_lays (by decide +kernel))
theorem dX12_lays_43 : decode cX12_lays 43 = .ok (.iastore, 1) := dq_79 (fd_r fcX12_lays (by decide +kernel))
theorem dX12_lays_44 : decode cX12_lays 44 = .ok (.iconst 0, 1) := dq_3 (fd_r fcX12_lays (by decide +kernel))
theorem dX12_lays_45 : decode cX12_lays 45 = .ok (.istore_n 2, 1) := dq_61 (fd_r fcX12_lays (by decide +kernel))
theorem dX12_lays_46 : decode cX12_lays 46 = .ok (.iload_n 2, 1) := dq_28 (fd_r fcX12_lays (by decide +kernel))
theorem dX12_lays_47 : decode cX12_lays 47 = .ok (.aload_n 0, 1) := dq_42 (fd_r fcX12_lays (by decide +kernel))
theorem dX12_lays_48 : decode cX12_lays 48 = .ok (.iload_n 1, 1) := dq_27 (fd_r fcX12_lays (by decide +kernel))
theorem dX12_lays_49 : decode cX12_lays 49 = .ok (.invokevirtual 463, 3) := dq_182 (a := 1) (b := 207) (fd_r fcX12_lays (by decide +kernel)) rfl
theorem dX12_lays_52 : decode cX12_lays 52 = .ok (.if_icmp .ge 124, 3) := dq_162 (a := 0) (b := 124) (fd_r fcX12_lays (by decide +kernel)) rfl
theorem dX12_lays_55 : decode cX12_lays 55 = .ok (.iconst 0, 1) := dq_3 (fd_r fcX12_lays (by decide +kernel))
theorem dX12_lays_56 : decode cX12_lays 56 = .ok (.istore_n 3, 1) := dq_62 (fd_r fcX12_lays (by decide +kernel))
theorem dX12_lays_57 : decode cX12_lays 57 = .ok (.iconst 0, 1) := dq_3 (fd_r fcX12_lays (by decide +kernel))
theorem dX12_lays_58 : decode cX12_lays 58 = .ok (.istore 4, 2) := dq_54 (a := 4) (fd_r fcX12_lays (by decide +kernel))
theorem dX12_lays_60 : decode cX12_lays 60 = .ok (.iload 4, 2) := dq_21 (a := 4) (fd_r fcX12_lays (by decide +kernel))
theorem dX12_lays_62 : decode cX12_lays 62 = .ok (.aload_n 0, 1) := dq_42 (fd_r fcX12_lays (by decide +kernel))
theorem dX12_lays_63 : decode cX12_lays 63 = .ok (.getfield 87, 3) := dq_180 (a := 0) (b := 87) (fd_r fcX12_lays (by decide +kernel)) rfl
theorem dX12_lays_66 : decode cX12_lays 66 = .ok (.aload_n 0, 1) := dq_42 (fd_r fcX12_lays (by decide +kernel))
theorem dX12_lays_67 : decode cX12_lays 67 = .ok (.getfield 51, 3) := dq_180 (a := 0) (b := 51) (fd_r fcX12_lays (by decide +kernel)) rfl
theorem dX12_lays_70 : decode cX12_lays 70 = .ok (.iaload, 1) := dq_46 (fd_r fcX12_lays (by decide +kernel))
theorem dX12_lays_71 : decode cX12_lays 71 = .ok (.if_icmp .ge 31, 3) := dq_162 (a := 0) (b := 31) (fd_r fcX12_lays (by decide +kernel)) rfl
theorem dX12_lays_74 : decode cX12_lays 74 = .ok (.iload_n 3, 1) := dq_29 (fd_r fcX12_lays (by decide +kernel))
theorem dX12_lays_75 : decode cX12_lays 75 = .ok (.aload_n 0, 1) := dq_42 (fd_r fcX12_lays (by decide +kernel))
theorem dX12_lays_76 : decode cX12_lays 76 = .ok (.iload 4, 2) := dq_21 (a := 4) (fd_r fcX12_lays (by decide +kernel))
theorem dX12_lays_78 : decode cX12_lays 78 = .ok (.iload_n 1, 1) := dq_27 (fd_r fcX12_lays (by decide +kernel))
theorem dX12_lays_79 : decode cX12_lays 79 = .ok (.iload_n 2, 1) := dq_28 (fd_r fcX12_lays (by decide +kernel))
theorem dX12_lays_80 : decode cX12_lays 80 = .ok (.invokevirtual 466, 3) := dq_182 (a := 1) (b := 210) (fd_r fcX12_lays (by decide +kernel)) rfl
theorem dX12_lays_83 : decode cX12_lays 83 = .ok (.ifCond .eq 10, 3) := dq_153 (a := 0) (b := 10) (fd_r fcX12_lays (by decide +kernel)) rfl
theorem dX12_lays_86 : decode cX12_lays 86 = .ok (.iconst 1, 1) := dq_4 (fd_r fcX12_lays (by decide +kernel))
theorem dX12_lays_87 : decode cX12_lays 87 = .ok (.iload 4, 2) := dq_21 (a := 4) (fd_r fcX12_lays (by decide +kernel))
theorem dX12_lays_89 : decode cX12_lays 89 = .ok (.ishl, 1) := dq_120 (fd_r fcX12_lays (by decide +kernel))
theorem dX12_lays_90 : decode cX12_lays 90 = .ok (.goto 4, 3) := dq_167 (a := 0) (b := 4) (fd_r fcX12_lays (by decide +kernel)) rfl
theorem dX12_lays_93 : decode cX12_lays 93 = .ok (.iconst 0, 1) := dq_3 (fd_r fcX12_lays (by decide +kernel))
theorem dX12_lays_94 : decode cX12_lays 94 = .ok (.ior, 1) := dq_128 (fd_r fcX12_lays (by decide +kernel))
theorem dX12_lays_95 : decode cX12_lays 95 = .ok (.istore_n 3, 1) := dq_62 (fd_r fcX12_lays (by decide +kernel))
theorem dX12_lays_96 : decode cX12_lays 96 = .ok (.iinc 4 1, 3) := dq_132 (a := 4) (b := 1) (fd_r fcX12_lays (by decide +kernel)) rfl
theorem dX12_lays_99 : decode cX12_lays 99 = .ok (.goto (-39), 3) := dq_167 (a := 255) (b := 217) (fd_r fcX12_lays (by decide +kernel)) rfl
theorem dX12_lays_102 : decode cX12_lays 102 = .ok (.aload_n 0, 1) := dq_42 (fd_r fcX12_lays (by decide +kernel))
theorem dX12_lays_103 : decode cX12_lays 103 = .ok (.getfield 167, 3) := dq_180 (a := 0) (b := 167) (fd_r fcX12_lays (by decide +kernel)) rfl
theorem dX12_lays_106 : decode cX12_lays 106 = .ok (.iload_n 3, 1) := dq_29 (fd_r fcX12_lays (by decide +kernel))
theorem dX12_lays_107 : decode cX12_lays 107 = .ok (.iaload, 1) := dq_46 (fd_r fcX12_lays (by decide +kernel))
theorem dX12_lays_108 : decode cX12_lays 108 = .ok (.iconst (-1), 1) := dq_2 (fd_r fcX12_lays (by decide +kernel))
theorem dX12_lays_109 : decode cX12_lays 109 = .ok (.if_icmp .ne 43, 3) := dq_160 (a := 0) (b := 43) (fd_r fcX12_lays (by decide +kernel)) rfl
theorem dX12_lays_112 : decode cX12_lays 112 = .ok (.aload_n 0, 1) := dq_42 (fd_r fcX12_lays (by decide +kernel))
theorem dX12_lays_113 : decode cX12_lays 113 = .ok (.getfield 167, 3) := dq_180 (a := 0) (b := 167) (fd_r fcX12_lays (by decide +kernel)) rfl
theorem dX12_lays_116 : decode cX12_lays 116 = .ok (.iload_n 3, 1) := dq_29 (fd_r fcX12_lays (by decide +kernel))
theorem dX12_lays_117 : decode cX12_lays 117 = .ok (.aload_n 0, 1) := dq_42 (fd_r fcX12_lays (by decide +kernel))
theorem dX12_lays_118 : decode cX12_lays 118 = .ok (.getfield 164, 3) := dq_180 (a := 0) (b := 164) (fd_r fcX12_lays (by decide +kernel)) rfl
theorem dX12_lays_121 : decode cX12_lays 121 = .ok (.iload_n 1, 1) := dq_27 (fd_r fcX12_lays (by decide +kernel))
theorem dX12_lays_122 : decode cX12_lays 122 = .ok (.iaload, 1) := dq_46 (fd_r fcX12_lays (by decide +kernel))
theorem dX12_lays_123 : decode cX12_lays 123 = .ok (.iastore, 1) := dq_79 (fd_r fcX12_lays (by decide +kernel))
theorem dX12_lays_124 : decode cX12_lays 124 = .ok (.aload_n 0, 1) := dq_42 (fd_r fcX12_lays (by decide +kernel))
theorem dX12_lays_125 : decode cX12_lays 125 = .ok (.getfield 161, 3) := dq_180 (a := 0) (b := 161) (fd_r fcX12_lays (by decide +kernel)) rfl
theorem dX12_lays_128 : decode cX12_lays 128 = .ok (.sipush 2010, 3) := dq_17 (a := 7) (b := 218) (fd_r fcX12_lays (by decide +kernel)) rfl
theorem dX12_lays_131 : decode cX12_lays 131 = .ok (.iload_n 1, 1) := dq_27 (fd_r fcX12_lays (by decide +kernel))
theorem dX12_lays_132 : decode cX12_lays 132 = .ok (.imul, 1) := dq_104 (fd_r fcX12_lays (by decide +kernel))
theorem dX12_lays_133 : decode cX12_lays 133 = .ok (.aload_n 0, 1) := dq_42 (fd_r fcX12_lays (by decide +kernel))
theorem dX12_lays_134 : decode cX12_lays 134 = .ok (.getfield 164, 3) := dq_180 (a := 0) (b := 164) (fd_r fcX12_lays (by decide +kernel)) rfl
theorem dX12_lays_137 : decode cX12_lays 137 = .ok (.iload_n 1, 1) := dq_27 (fd_r fcX12_lays (by decide +kernel))
theorem dX12_lays_138 : decode cX12_lays 138 = .ok (.iaload, 1) := dq_46 (fd_r fcX12_lays (by decide +kernel))
theorem dX12_lays_139 : decode cX12_lays 139 = .ok (.iadd, 1) := dq_96 (fd_r fcX12_lays (by decide +kernel))
theorem dX12_lays_140 : decode cX12_lays 140 = .ok (.iload_n 3, 1) := dq_29 (fd_r fcX12_lays (by decide +kernel))
theorem dX12_lays_141 : decode cX12_lays 141 = .ok (.iastore, 1) := dq_79 (fd_r fcX12_lays (by decide +kernel))
theorem dX12_lays_142 : decode cX12_lays 142 = .ok (.aload_n 0, 1) := dq_42 (fd_r fcX12_lays (by decide +kernel))
theorem dX12_lays_143 : decode cX12_lays 143 = .ok (.getfield 164, 3) := dq_180 (a := 0) (b := 164) (fd_r fcX12_lays (by decide +kernel)) rfl
theorem dX12_lays_146 : decode cX12_lays 146 = .ok (.iload_n 1, 1) := dq_27 (fd_r fcX12_lays (by decide +kernel))
theorem dX12_lays_147 : decode cX12_lays 147 = .ok (.dup2, 1) := dq_92 (fd_r fcX12_lays (by decide +kernel))
theorem dX12_lays_148 : decode cX12_lays 148 = .ok (.iaload, 1) := dq_46 (fd_r fcX12_lays (by decide +kernel))
theorem dX12_lays_149 : decode cX12_lays 149 = .ok (.iconst 1, 1) := dq_4 (fd_r fcX12_lays (by decide +kernel))
theorem dX12_lays_150 : decode cX12_lays 150 = .ok (.iadd, 1) := dq_96 (fd_r fcX12_lays (by decide +kernel))
theorem dX12_lays_151 : decode cX12_lays 151 = .ok (.iastore, 1) := dq_79 (fd_r fcX12_lays (by decide +kernel))
theorem dX12_lays_152 : decode cX12_lays 152 = .ok (.aload_n 0, 1) := dq_42 (fd_r fcX12_lays (by decide +kernel))
theorem dX12_lays_153 : decode cX12_lays 153 = .ok (.getfield 158, 3) := dq_180 (a := 0) (b := 158) (fd_r fcX12_lays (by decide +kernel)) rfl
theorem dX12_lays_156 : decode cX12_lays 156 = .ok (.sipush 2010, 3) := dq_17 (a := 7) (b := 218) (fd_r fcX12_lays (by decide +kernel)) rfl
theorem dX12_lays_159 : decode cX12_lays 159 = .ok (.iload_n 1, 1) := dq_27 (fd_r fcX12_lays (by decide +kernel))
theorem dX12_lays_160 : decode cX12_lays 160 = .ok (.imul, 1) := dq_104 (fd_r fcX12_lays (by decide +kernel))
theorem dX12_lays_161 : decode cX12_lays 161 = .ok (.iload_n 2, 1) := dq_28 (fd_r fcX12_lays (by decide +kernel))
theorem dX12_lays_162 : decode cX12_lays 162 = .ok (.iadd, 1) := dq_96 (fd_r fcX12_lays (by decide +kernel))
theorem dX12_lays_163 : decode cX12_lays 163 = .ok (.aload_n 0, 1) := dq_42 (fd_r fcX12_lays (by decide +kernel))
theorem dX12_lays_164 : decode cX12_lays 164 = .ok (.getfield 167, 3) := dq_180 (a := 0) (b := 167) (fd_r fcX12_lays (by decide +kernel)) rfl
theorem dX12_lays_167 : decode cX12_lays 167 = .ok (.iload_n 3, 1) := dq_29 (fd_r fcX12_lays (by decide +kernel))
theorem dX12_lays_168 : decode cX12_lays 168 = .ok (.iaload, 1) := dq_46 (fd_r fcX12_lays (by decide +kernel))
theorem dX12_lays_169 : decode cX12_lays 169 = .ok (.iastore, 1) := dq_79 (fd_r fcX12_lays (by decide +kernel))
theorem dX12_lays_170 : decode cX12_lays 170 = .ok (.iinc 2 1, 3) := dq_132 (a := 2) (b := 1) (fd_r fcX12_lays (by decide +kernel)) rfl
theorem dX12_lays_173 : decode cX12_lays 173 = .ok (.goto (-127), 3) := dq_167 (a := 255) (b := 129) (fd_r fcX12_lays (by decide +kernel)) rfl
theorem dX12_lays_176 : decode cX12_lays 176 = .ok (.aload_n 0, 1) := dq_42 (fd_r fcX12_lays (by decide +kernel))
theorem dX12_lays_177 : decode cX12_lays 177 = .ok (.dup, 1) := dq_89 (fd_r fcX12_lays (by decide +kernel))
theorem dX12_lays_178 : decode cX12_lays 178 = .ok (.getfield 170, 3) := dq_180 (a := 0) (b := 170) (fd_r fcX12_lays (by decide +kernel)) rfl
theorem dX12_lays_181 : decode cX12_lays 181 = .ok (.aload_n 0, 1) := dq_42 (fd_r fcX12_lays (by decide +kernel))
theorem dX12_lays_182 : decode cX12_lays 182 = .ok (.iload_n 1, 1) := dq_27 (fd_r fcX12_lays (by decide +kernel))
theorem dX12_lays_183 : decode cX12_lays 183 = .ok (.invokevirtual 463, 3) := dq_182 (a := 1) (b := 207) (fd_r fcX12_lays (by decide +kernel)) rfl
theorem dX12_lays_186 : decode cX12_lays 186 = .ok (.imul, 1) := dq_104 (fd_r fcX12_lays (by decide +kernel))
theorem dX12_lays_187 : decode cX12_lays 187 = .ok (.putfield 170, 3) := dq_181 (a := 0) (b := 170) (fd_r fcX12_lays (by decide +kernel)) rfl
theorem dX12_lays_190 : decode cX12_lays 190 = .ok (.iinc 1 1, 3) := dq_132 (a := 1) (b := 1) (fd_r fcX12_lays (by decide +kernel)) rfl
theorem dX12_lays_193 : decode cX12_lays 193 = .ok (.goto (-186), 3) := dq_167 (a := 255) (b := 70) (fd_r fcX12_lays (by decide +kernel)) rfl
theorem dX12_lays_196 : decode cX12_lays 196 = .ok (.return_, 1) := dq_177 (fd_r fcX12_lays (by decide +kernel))
theorem dX12_copies_0 : decode cX12_copies 0 = .ok (.aload_n 0, 1) := dq_42 (fd_r fcX12_copies (by decide +kernel))
theorem dX12_copies_1 : decode cX12_copies 1 = .ok (.getfield 173, 3) := dq_180 (a := 0) (b := 173) (fd_r fcX12_copies (by decide +kernel)) rfl
theorem dX12_copies_4 : decode cX12_copies 4 = .ok (.iload_n 1, 1) := dq_27 (fd_r fcX12_copies (by decide +kernel))
theorem dX12_copies_5 : decode cX12_copies 5 = .ok (.aload_n 0, 1) := dq_42 (fd_r fcX12_copies (by decide +kernel))
theorem dX12_copies_6 : decode cX12_copies 6 = .ok (.getfield 173, 3) := dq_180 (a := 0) (b := 173) (fd_r fcX12_copies (by decide +kernel)) rfl
theorem dX12_copies_9 : decode cX12_copies 9 = .ok (.iload_n 2, 1) := dq_28 (fd_r fcX12_copies (by decide +kernel))
theorem dX12_copies_10 : decode cX12_copies 10 = .ok (.iaload, 1) := dq_46 (fd_r fcX12_copies (by decide +kernel))
theorem dX12_copies_11 : decode cX12_copies 11 = .ok (.iastore, 1) := dq_79 (fd_r fcX12_copies (by decide +kernel))
theorem dX12_copies_12 : decode cX12_copies 12 = .ok (.iconst 0, 1) := dq_3 (fd_r fcX12_copies (by decide +kernel))
theorem dX12_copies_13 : decode cX12_copies 13 = .ok (.istore_n 3, 1) := dq_62 (fd_r fcX12_copies (by decide +kernel))
theorem dX12_copies_14 : decode cX12_copies 14 = .ok (.iload_n 3, 1) := dq_29 (fd_r fcX12_copies (by decide +kernel))
theorem dX12_copies_15 : decode cX12_copies 15 = .ok (.bipush 12, 2) := dq_16 (a := 12) (fd_r fcX12_copies (by decide +kernel)) rfl
theorem dX12_copies_17 : decode cX12_copies 17 = .ok (.if_icmp .ge 31, 3) := dq_162 (a := 0) (b := 31) (fd_r fcX12_copies (by decide +kernel)) rfl
theorem dX12_copies_20 : decode cX12_copies 20 = .ok (.aload_n 0, 1) := dq_42 (fd_r fcX12_copies (by decide +kernel))
theorem dX12_copies_21 : decode cX12_copies 21 = .ok (.getfield 176, 3) := dq_180 (a := 0) (b := 176) (fd_r fcX12_copies (by decide +kernel)) rfl
theorem dX12_copies_24 : decode cX12_copies 24 = .ok (.bipush 12, 2) := dq_16 (a := 12) (fd_r fcX12_copies (by decide +kernel)) rfl
theorem dX12_copies_26 : decode cX12_copies 26 = .ok (.iload_n 1, 1) := dq_27 (fd_r fcX12_copies (by decide +kernel))
theorem dX12_copies_27 : decode cX12_copies 27 = .ok (.imul, 1) := dq_104 (fd_r fcX12_copies (by decide +kernel))
theorem dX12_copies_28 : decode cX12_copies 28 = .ok (.iload_n 3, 1) := dq_29 (fd_r fcX12_copies (by decide +kernel))
theorem dX12_copies_29 : decode cX12_copies 29 = .ok (.iadd, 1) := dq_96 (fd_r fcX12_copies (by decide +kernel))
theorem dX12_copies_30 : decode cX12_copies 30 = .ok (.aload_n 0, 1) := dq_42 (fd_r fcX12_copies (by decide +kernel))
theorem dX12_copies_31 : decode cX12_copies 31 = .ok (.getfield 176, 3) := dq_180 (a := 0) (b := 176) (fd_r fcX12_copies (by decide +kernel)) rfl
theorem dX12_copies_34 : decode cX12_copies 34 = .ok (.bipush 12, 2) := dq_16 (a := 12) (fd_r fcX12_copies (by decide +kernel)) rfl
theorem dX12_copies_36 : decode cX12_copies 36 = .ok (.iload_n 2, 1) := dq_28 (fd_r fcX12_copies (by decide +kernel))
theorem dX12_copies_37 : decode cX12_copies 37 = .ok (.imul, 1) := dq_104 (fd_r fcX12_copies (by decide +kernel))
theorem dX12_copies_38 : decode cX12_copies 38 = .ok (.iload_n 3, 1) := dq_29 (fd_r fcX12_copies (by decide +kernel))
theorem dX12_copies_39 : decode cX12_copies 39 = .ok (.iadd, 1) := dq_96 (fd_r fcX12_copies (by decide +kernel))
theorem dX12_copies_40 : decode cX12_copies 40 = .ok (.iaload, 1) := dq_46 (fd_r fcX12_copies (by decide +kernel))
theorem dX12_copies_41 : decode cX12_copies 41 = .ok (.iastore, 1) := dq_79 (fd_r fcX12_copies (by decide +kernel))
theorem dX12_copies_42 : decode cX12_copies 42 = .ok (.iinc 3 1, 3) := dq_132 (a := 3) (b := 1) (fd_r fcX12_copies (by decide +kernel)) rfl
theorem dX12_copies_45 : decode cX12_copies 45 = .ok (.goto (-31), 3) := dq_167 (a := 255) (b := 225) (fd_r fcX12_copies (by decide +kernel)) rfl
end
section
theorem dX12_copies_48 : decode cX12_copies 48 = .ok (.aload_n 0, 1) := dq_42 (fd_r fcX12_copies (by decide +kernel))
theorem dX12_copies_49 : decode cX12_copies 49 = .ok (.getfield 179, 3) := dq_180 (a := 0) (b := 179) (fd_r fcX12_copies (by decide +kernel)) rfl
theorem dX12_copies_52 : decode cX12_copies 52 = .ok (.iload_n 1, 1) := dq_27 (fd_r fcX12_copies (by decide +kernel))
theorem dX12_copies_53 : decode cX12_copies 53 = .ok (.aload_n 0, 1) := dq_42 (fd_r fcX12_copies (by decide +kernel))
theorem dX12_copies_54 : decode cX12_copies 54 = .ok (.getfield 179, 3) := dq_180 (a := 0) (b := 179) (fd_r fcX12_copies (by decide +kernel)) rfl
theorem dX12_copies_57 : decode cX12_copies 57 = .ok (.iload_n 2, 1) := dq_28 (fd_r fcX12_copies (by decide +kernel))
theorem dX12_copies_58 : decode cX12_copies 58 = .ok (.iaload, 1) := dq_46 (fd_r fcX12_copies (by decide +kernel))
theorem dX12_copies_59 : decode cX12_copies 59 = .ok (.iastore, 1) := dq_79 (fd_r fcX12_copies (by decide +kernel))
theorem dX12_copies_60 : decode cX12_copies 60 = .ok (.aload_n 0, 1) := dq_42 (fd_r fcX12_copies (by decide +kernel))
theorem dX12_copies_61 : decode cX12_copies 61 = .ok (.getfield 182, 3) := dq_180 (a := 0) (b := 182) (fd_r fcX12_copies (by decide +kernel)) rfl
theorem dX12_copies_64 : decode cX12_copies 64 = .ok (.iload_n 1, 1) := dq_27 (fd_r fcX12_copies (by decide +kernel))
theorem dX12_copies_65 : decode cX12_copies 65 = .ok (.aload_n 0, 1) := dq_42 (fd_r fcX12_copies (by decide +kernel))
theorem dX12_copies_66 : decode cX12_copies 66 = .ok (.getfield 182, 3) := dq_180 (a := 0) (b := 182) (fd_r fcX12_copies (by decide +kernel)) rfl
theorem dX12_copies_69 : decode cX12_copies 69 = .ok (.iload_n 2, 1) := dq_28 (fd_r fcX12_copies (by decide +kernel))
theorem dX12_copies_70 : decode cX12_copies 70 = .ok (.iaload, 1) := dq_46 (fd_r fcX12_copies (by decide +kernel))
theorem dX12_copies_71 : decode cX12_copies 71 = .ok (.iastore, 1) := dq_79 (fd_r fcX12_copies (by decide +kernel))
theorem dX12_copies_72 : decode cX12_copies 72 = .ok (.aload_n 0, 1) := dq_42 (fd_r fcX12_copies (by decide +kernel))
theorem dX12_copies_73 : decode cX12_copies 73 = .ok (.getfield 185, 3) := dq_180 (a := 0) (b := 185) (fd_r fcX12_copies (by decide +kernel)) rfl
theorem dX12_copies_76 : decode cX12_copies 76 = .ok (.iload_n 1, 1) := dq_27 (fd_r fcX12_copies (by decide +kernel))
theorem dX12_copies_77 : decode cX12_copies 77 = .ok (.aload_n 0, 1) := dq_42 (fd_r fcX12_copies (by decide +kernel))
theorem dX12_copies_78 : decode cX12_copies 78 = .ok (.getfield 185, 3) := dq_180 (a := 0) (b := 185) (fd_r fcX12_copies (by decide +kernel)) rfl
theorem dX12_copies_81 : decode cX12_copies 81 = .ok (.iload_n 2, 1) := dq_28 (fd_r fcX12_copies (by decide +kernel))
theorem dX12_copies_82 : decode cX12_copies 82 = .ok (.iaload, 1) := dq_46 (fd_r fcX12_copies (by decide +kernel))
theorem dX12_copies_83 : decode cX12_copies 83 = .ok (.iastore, 1) := dq_79 (fd_r fcX12_copies (by decide +kernel))
theorem dX12_copies_84 : decode cX12_copies 84 = .ok (.iconst 0, 1) := dq_3 (fd_r fcX12_copies (by decide +kernel))
theorem dX12_copies_85 : decode cX12_copies 85 = .ok (.istore_n 3, 1) := dq_62 (fd_r fcX12_copies (by decide +kernel))
theorem dX12_copies_86 : decode cX12_copies 86 = .ok (.iload_n 3, 1) := dq_29 (fd_r fcX12_copies (by decide +kernel))
theorem dX12_copies_87 : decode cX12_copies 87 = .ok (.iconst 3, 1) := dq_6 (fd_r fcX12_copies (by decide +kernel))
theorem dX12_copies_88 : decode cX12_copies 88 = .ok (.aload_n 0, 1) := dq_42 (fd_r fcX12_copies (by decide +kernel))
theorem dX12_copies_89 : decode cX12_copies 89 = .ok (.getfield 185, 3) := dq_180 (a := 0) (b := 185) (fd_r fcX12_copies (by decide +kernel)) rfl
theorem dX12_copies_92 : decode cX12_copies 92 = .ok (.iload_n 2, 1) := dq_28 (fd_r fcX12_copies (by decide +kernel))
theorem dX12_copies_93 : decode cX12_copies 93 = .ok (.iaload, 1) := dq_46 (fd_r fcX12_copies (by decide +kernel))
theorem dX12_copies_94 : decode cX12_copies 94 = .ok (.imul, 1) := dq_104 (fd_r fcX12_copies (by decide +kernel))
theorem dX12_copies_95 : decode cX12_copies 95 = .ok (.if_icmp .ge 31, 3) := dq_162 (a := 0) (b := 31) (fd_r fcX12_copies (by decide +kernel)) rfl
theorem dX12_copies_98 : decode cX12_copies 98 = .ok (.aload_n 0, 1) := dq_42 (fd_r fcX12_copies (by decide +kernel))
theorem dX12_copies_99 : decode cX12_copies 99 = .ok (.getfield 188, 3) := dq_180 (a := 0) (b := 188) (fd_r fcX12_copies (by decide +kernel)) rfl
theorem dX12_copies_102 : decode cX12_copies 102 = .ok (.bipush 120, 2) := dq_16 (a := 120) (fd_r fcX12_copies (by decide +kernel)) rfl
theorem dX12_copies_104 : decode cX12_copies 104 = .ok (.iload_n 1, 1) := dq_27 (fd_r fcX12_copies (by decide +kernel))
theorem dX12_copies_105 : decode cX12_copies 105 = .ok (.imul, 1) := dq_104 (fd_r fcX12_copies (by decide +kernel))
theorem dX12_copies_106 : decode cX12_copies 106 = .ok (.iload_n 3, 1) := dq_29 (fd_r fcX12_copies (by decide +kernel))
theorem dX12_copies_107 : decode cX12_copies 107 = .ok (.iadd, 1) := dq_96 (fd_r fcX12_copies (by decide +kernel))
theorem dX12_copies_108 : decode cX12_copies 108 = .ok (.aload_n 0, 1) := dq_42 (fd_r fcX12_copies (by decide +kernel))
theorem dX12_copies_109 : decode cX12_copies 109 = .ok (.getfield 188, 3) := dq_180 (a := 0) (b := 188) (fd_r fcX12_copies (by decide +kernel)) rfl
theorem dX12_copies_112 : decode cX12_copies 112 = .ok (.bipush 120, 2) := dq_16 (a := 120) (fd_r fcX12_copies (by decide +kernel)) rfl
theorem dX12_copies_114 : decode cX12_copies 114 = .ok (.iload_n 2, 1) := dq_28 (fd_r fcX12_copies (by decide +kernel))
theorem dX12_copies_115 : decode cX12_copies 115 = .ok (.imul, 1) := dq_104 (fd_r fcX12_copies (by decide +kernel))
theorem dX12_copies_116 : decode cX12_copies 116 = .ok (.iload_n 3, 1) := dq_29 (fd_r fcX12_copies (by decide +kernel))
theorem dX12_copies_117 : decode cX12_copies 117 = .ok (.iadd, 1) := dq_96 (fd_r fcX12_copies (by decide +kernel))
theorem dX12_copies_118 : decode cX12_copies 118 = .ok (.iaload, 1) := dq_46 (fd_r fcX12_copies (by decide +kernel))
theorem dX12_copies_119 : decode cX12_copies 119 = .ok (.iastore, 1) := dq_79 (fd_r fcX12_copies (by decide +kernel))
theorem dX12_copies_120 : decode cX12_copies 120 = .ok (.iinc 3 1, 3) := dq_132 (a := 3) (b := 1) (fd_r fcX12_copies (by decide +kernel)) rfl
theorem dX12_copies_123 : decode cX12_copies 123 = .ok (.goto (-37), 3) := dq_167 (a := 255) (b := 219) (fd_r fcX12_copies (by decide +kernel)) rfl
theorem dX12_copies_126 : decode cX12_copies 126 = .ok (.return_, 1) := dq_177 (fd_r fcX12_copies (by decide +kernel))
theorem dX12_begin_0 : decode cX12_begin 0 = .ok (.aload_n 0, 1) := dq_42 (fd_r fcX12_begin (by decide +kernel))
theorem dX12_begin_1 : decode cX12_begin 1 = .ok (.getfield 173, 3) := dq_180 (a := 0) (b := 173) (fd_r fcX12_begin (by decide +kernel)) rfl
theorem dX12_begin_4 : decode cX12_begin 4 = .ok (.iconst 0, 1) := dq_3 (fd_r fcX12_begin (by decide +kernel))
theorem dX12_begin_5 : decode cX12_begin 5 = .ok (.aload_n 0, 1) := dq_42 (fd_r fcX12_begin (by decide +kernel))
theorem dX12_begin_6 : decode cX12_begin 6 = .ok (.getfield 87, 3) := dq_180 (a := 0) (b := 87) (fd_r fcX12_begin (by decide +kernel)) rfl
theorem dX12_begin_9 : decode cX12_begin 9 = .ok (.aload_n 0, 1) := dq_42 (fd_r fcX12_begin (by decide +kernel))
theorem dX12_begin_10 : decode cX12_begin 10 = .ok (.getfield 51, 3) := dq_180 (a := 0) (b := 51) (fd_r fcX12_begin (by decide +kernel)) rfl
theorem dX12_begin_13 : decode cX12_begin 13 = .ok (.iaload, 1) := dq_46 (fd_r fcX12_begin (by decide +kernel))
theorem dX12_begin_14 : decode cX12_begin 14 = .ok (.iastore, 1) := dq_79 (fd_r fcX12_begin (by decide +kernel))
theorem dX12_begin_15 : decode cX12_begin 15 = .ok (.iconst 0, 1) := dq_3 (fd_r fcX12_begin (by decide +kernel))
theorem dX12_begin_16 : decode cX12_begin 16 = .ok (.istore_n 1, 1) := dq_60 (fd_r fcX12_begin (by decide +kernel))
theorem dX12_begin_17 : decode cX12_begin 17 = .ok (.iload_n 1, 1) := dq_27 (fd_r fcX12_begin (by decide +kernel))
theorem dX12_begin_18 : decode cX12_begin 18 = .ok (.bipush 12, 2) := dq_16 (a := 12) (fd_r fcX12_begin (by decide +kernel)) rfl
theorem dX12_begin_20 : decode cX12_begin 20 = .ok (.if_icmp .ge 16, 3) := dq_162 (a := 0) (b := 16) (fd_r fcX12_begin (by decide +kernel)) rfl
theorem dX12_begin_23 : decode cX12_begin 23 = .ok (.aload_n 0, 1) := dq_42 (fd_r fcX12_begin (by decide +kernel))
theorem dX12_begin_24 : decode cX12_begin 24 = .ok (.getfield 176, 3) := dq_180 (a := 0) (b := 176) (fd_r fcX12_begin (by decide +kernel)) rfl
theorem dX12_begin_27 : decode cX12_begin 27 = .ok (.iload_n 1, 1) := dq_27 (fd_r fcX12_begin (by decide +kernel))
theorem dX12_begin_28 : decode cX12_begin 28 = .ok (.iload_n 1, 1) := dq_27 (fd_r fcX12_begin (by decide +kernel))
theorem dX12_begin_29 : decode cX12_begin 29 = .ok (.iastore, 1) := dq_79 (fd_r fcX12_begin (by decide +kernel))
theorem dX12_begin_30 : decode cX12_begin 30 = .ok (.iinc 1 1, 3) := dq_132 (a := 1) (b := 1) (fd_r fcX12_begin (by decide +kernel)) rfl
theorem dX12_begin_33 : decode cX12_begin 33 = .ok (.goto (-16), 3) := dq_167 (a := 255) (b := 240) (fd_r fcX12_begin (by decide +kernel)) rfl
theorem dX12_begin_36 : decode cX12_begin 36 = .ok (.aload_n 0, 1) := dq_42 (fd_r fcX12_begin (by decide +kernel))
theorem dX12_begin_37 : decode cX12_begin 37 = .ok (.getfield 179, 3) := dq_180 (a := 0) (b := 179) (fd_r fcX12_begin (by decide +kernel)) rfl
theorem dX12_begin_40 : decode cX12_begin 40 = .ok (.iconst 0, 1) := dq_3 (fd_r fcX12_begin (by decide +kernel))
theorem dX12_begin_41 : decode cX12_begin 41 = .ok (.aload_n 0, 1) := dq_42 (fd_r fcX12_begin (by decide +kernel))
theorem dX12_begin_42 : decode cX12_begin 42 = .ok (.getfield 146, 3) := dq_180 (a := 0) (b := 146) (fd_r fcX12_begin (by decide +kernel)) rfl
theorem dX12_begin_45 : decode cX12_begin 45 = .ok (.ifCond .eq 9, 3) := dq_153 (a := 0) (b := 9) (fd_r fcX12_begin (by decide +kernel)) rfl
theorem dX12_begin_48 : decode cX12_begin 48 = .ok (.sipush 255, 3) := dq_17 (a := 0) (b := 255) (fd_r fcX12_begin (by decide +kernel)) rfl
theorem dX12_begin_51 : decode cX12_begin 51 = .ok (.goto 4, 3) := dq_167 (a := 0) (b := 4) (fd_r fcX12_begin (by decide +kernel)) rfl
theorem dX12_begin_54 : decode cX12_begin 54 = .ok (.iconst 0, 1) := dq_3 (fd_r fcX12_begin (by decide +kernel))
theorem dX12_begin_55 : decode cX12_begin 55 = .ok (.iastore, 1) := dq_79 (fd_r fcX12_begin (by decide +kernel))
theorem dX12_begin_56 : decode cX12_begin 56 = .ok (.aload_n 0, 1) := dq_42 (fd_r fcX12_begin (by decide +kernel))
theorem dX12_begin_57 : decode cX12_begin 57 = .ok (.getfield 182, 3) := dq_180 (a := 0) (b := 182) (fd_r fcX12_begin (by decide +kernel)) rfl
theorem dX12_begin_60 : decode cX12_begin 60 = .ok (.iconst 0, 1) := dq_3 (fd_r fcX12_begin (by decide +kernel))
theorem dX12_begin_61 : decode cX12_begin 61 = .ok (.aload_n 0, 1) := dq_42 (fd_r fcX12_begin (by decide +kernel))
theorem dX12_begin_62 : decode cX12_begin 62 = .ok (.getfield 93, 3) := dq_180 (a := 0) (b := 93) (fd_r fcX12_begin (by decide +kernel)) rfl
theorem dX12_begin_65 : decode cX12_begin 65 = .ok (.aload_n 0, 1) := dq_42 (fd_r fcX12_begin (by decide +kernel))
theorem dX12_begin_66 : decode cX12_begin 66 = .ok (.getfield 51, 3) := dq_180 (a := 0) (b := 51) (fd_r fcX12_begin (by decide +kernel)) rfl
theorem dX12_begin_69 : decode cX12_begin 69 = .ok (.iaload, 1) := dq_46 (fd_r fcX12_begin (by decide +kernel))
theorem dX12_begin_70 : decode cX12_begin 70 = .ok (.iastore, 1) := dq_79 (fd_r fcX12_begin (by decide +kernel))
theorem dX12_begin_71 : decode cX12_begin 71 = .ok (.aload_n 0, 1) := dq_42 (fd_r fcX12_begin (by decide +kernel))
theorem dX12_begin_72 : decode cX12_begin 72 = .ok (.getfield 185, 3) := dq_180 (a := 0) (b := 185) (fd_r fcX12_begin (by decide +kernel)) rfl
theorem dX12_begin_75 : decode cX12_begin 75 = .ok (.iconst 0, 1) := dq_3 (fd_r fcX12_begin (by decide +kernel))
theorem dX12_begin_76 : decode cX12_begin 76 = .ok (.iconst 0, 1) := dq_3 (fd_r fcX12_begin (by decide +kernel))
theorem dX12_begin_77 : decode cX12_begin 77 = .ok (.iastore, 1) := dq_79 (fd_r fcX12_begin (by decide +kernel))
theorem dX12_begin_78 : decode cX12_begin 78 = .ok (.aload_n 0, 1) := dq_42 (fd_r fcX12_begin (by decide +kernel))
theorem dX12_begin_79 : decode cX12_begin 79 = .ok (.iconst 0, 1) := dq_3 (fd_r fcX12_begin (by decide +kernel))
theorem dX12_begin_80 : decode cX12_begin 80 = .ok (.putfield 194, 3) := dq_181 (a := 0) (b := 194) (fd_r fcX12_begin (by decide +kernel)) rfl
theorem dX12_begin_83 : decode cX12_begin 83 = .ok (.aload_n 0, 1) := dq_42 (fd_r fcX12_begin (by decide +kernel))
theorem dX12_begin_84 : decode cX12_begin 84 = .ok (.iconst 0, 1) := dq_3 (fd_r fcX12_begin (by decide +kernel))
theorem dX12_begin_85 : decode cX12_begin 85 = .ok (.putfield 291, 3) := dq_181 (a := 1) (b := 35) (fd_r fcX12_begin (by decide +kernel)) rfl
theorem dX12_begin_88 : decode cX12_begin 88 = .ok (.return_, 1) := dq_177 (fd_r fcX12_begin (by decide +kernel))
theorem dX12_slot_0 : decode cX12_slot 0 = .ok (.iconst 2, 1) := dq_5 (fd_r fcX12_slot (by decide +kernel))
theorem dX12_slot_1 : decode cX12_slot 1 = .ok (.aload_n 0, 1) := dq_42 (fd_r fcX12_slot (by decide +kernel))
theorem dX12_slot_2 : decode cX12_slot 2 = .ok (.getfield 191, 3) := dq_180 (a := 0) (b := 191) (fd_r fcX12_slot (by decide +kernel)) rfl
theorem dX12_slot_5 : decode cX12_slot 5 = .ok (.iload_n 1, 1) := dq_27 (fd_r fcX12_slot (by decide +kernel))
theorem dX12_slot_6 : decode cX12_slot 6 = .ok (.iadd, 1) := dq_96 (fd_r fcX12_slot (by decide +kernel))
theorem dX12_slot_7 : decode cX12_slot 7 = .ok (.bipush 20, 2) := dq_16 (a := 20) (fd_r fcX12_slot (by decide +kernel)) rfl
theorem dX12_slot_9 : decode cX12_slot 9 = .ok (.irem, 1) := dq_112 (fd_r fcX12_slot (by decide +kernel))
theorem dX12_slot_10 : decode cX12_slot 10 = .ok (.iadd, 1) := dq_96 (fd_r fcX12_slot (by decide +kernel))
theorem dX12_slot_11 : decode cX12_slot 11 = .ok (.ireturn, 1) := dq_172 (fd_r fcX12_slot (by decide +kernel))
theorem dX12_keeps_0 : decode cX12_keeps 0 = .ok (.aload_n 0, 1) := dq_42 (fd_r fcX12_keeps (by decide +kernel))
theorem dX12_keeps_1 : decode cX12_keeps 1 = .ok (.getfield 194, 3) := dq_180 (a := 0) (b := 194) (fd_r fcX12_keeps (by decide +kernel)) rfl
theorem dX12_keeps_4 : decode cX12_keeps 4 = .ok (.bipush 20, 2) := dq_16 (a := 20) (fd_r fcX12_keeps (by decide +kernel)) rfl
theorem dX12_keeps_6 : decode cX12_keeps 6 = .ok (.if_icmp .ne 26, 3) := dq_160 (a := 0) (b := 26) (fd_r fcX12_keeps (by decide +kernel)) rfl
theorem dX12_keeps_9 : decode cX12_keeps 9 = .ok (.aload_n 0, 1) := dq_42 (fd_r fcX12_keeps (by decide +kernel))
theorem dX12_keeps_10 : decode cX12_keeps 10 = .ok (.aload_n 0, 1) := dq_42 (fd_r fcX12_keeps (by decide +kernel))
theorem dX12_keeps_11 : decode cX12_keeps 11 = .ok (.getfield 191, 3) := dq_180 (a := 0) (b := 191) (fd_r fcX12_keeps (by decide +kernel)) rfl
theorem dX12_keeps_14 : decode cX12_keeps 14 = .ok (.iconst 1, 1) := dq_4 (fd_r fcX12_keeps (by decide +kernel))
theorem dX12_keeps_15 : decode cX12_keeps 15 = .ok (.iadd, 1) := dq_96 (fd_r fcX12_keeps (by decide +kernel))
theorem dX12_keeps_16 : decode cX12_keeps 16 = .ok (.bipush 20, 2) := dq_16 (a := 20) (fd_r fcX12_keeps (by decide +kernel)) rfl
theorem dX12_keeps_18 : decode cX12_keeps 18 = .ok (.irem, 1) := dq_112 (fd_r fcX12_keeps (by decide +kernel))
theorem dX12_keeps_19 : decode cX12_keeps 19 = .ok (.putfield 191, 3) := dq_181 (a := 0) (b := 191) (fd_r fcX12_keeps (by decide +kernel)) rfl
theorem dX12_keeps_22 : decode cX12_keeps 22 = .ok (.aload_n 0, 1) := dq_42 (fd_r fcX12_keeps (by decide +kernel))
theorem dX12_keeps_23 : decode cX12_keeps 23 = .ok (.dup, 1) := dq_89 (fd_r fcX12_keeps (by decide +kernel))
theorem dX12_keeps_24 : decode cX12_keeps 24 = .ok (.getfield 194, 3) := dq_180 (a := 0) (b := 194) (fd_r fcX12_keeps (by decide +kernel)) rfl
theorem dX12_keeps_27 : decode cX12_keeps 27 = .ok (.iconst 1, 1) := dq_4 (fd_r fcX12_keeps (by decide +kernel))
theorem dX12_keeps_28 : decode cX12_keeps 28 = .ok (.isub, 1) := dq_100 (fd_r fcX12_keeps (by decide +kernel))
theorem dX12_keeps_29 : decode cX12_keeps 29 = .ok (.putfield 194, 3) := dq_181 (a := 0) (b := 194) (fd_r fcX12_keeps (by decide +kernel)) rfl
theorem dX12_keeps_32 : decode cX12_keeps 32 = .ok (.aload_n 0, 1) := dq_42 (fd_r fcX12_keeps (by decide +kernel))
theorem dX12_keeps_33 : decode cX12_keeps 33 = .ok (.aload_n 0, 1) := dq_42 (fd_r fcX12_keeps (by decide +kernel))
theorem dX12_keeps_34 : decode cX12_keeps 34 = .ok (.aload_n 0, 1) := dq_42 (fd_r fcX12_keeps (by decide +kernel))
theorem dX12_keeps_35 : decode cX12_keeps 35 = .ok (.getfield 194, 3) := dq_180 (a := 0) (b := 194) (fd_r fcX12_keeps (by decide +kernel)) rfl
theorem dX12_keeps_38 : decode cX12_keeps 38 = .ok (.invokevirtual 469, 3) := dq_182 (a := 1) (b := 213) (fd_r fcX12_keeps (by decide +kernel)) rfl
theorem dX12_keeps_41 : decode cX12_keeps 41 = .ok (.iconst 0, 1) := dq_3 (fd_r fcX12_keeps (by decide +kernel))
theorem dX12_keeps_42 : decode cX12_keeps 42 = .ok (.invokevirtual 472, 3) := dq_182 (a := 1) (b := 216) (fd_r fcX12_keeps (by decide +kernel)) rfl
theorem dX12_keeps_45 : decode cX12_keeps 45 = .ok (.aload_n 0, 1) := dq_42 (fd_r fcX12_keeps (by decide +kernel))
theorem dX12_keeps_46 : decode cX12_keeps 46 = .ok (.dup, 1) := dq_89 (fd_r fcX12_keeps (by decide +kernel))
theorem dX12_keeps_47 : decode cX12_keeps 47 = .ok (.getfield 194, 3) := dq_180 (a := 0) (b := 194) (fd_r fcX12_keeps (by decide +kernel)) rfl
theorem dX12_keeps_50 : decode cX12_keeps 50 = .ok (.iconst 1, 1) := dq_4 (fd_r fcX12_keeps (by decide +kernel))
theorem dX12_keeps_51 : decode cX12_keeps 51 = .ok (.iadd, 1) := dq_96 (fd_r fcX12_keeps (by decide +kernel))
theorem dX12_keeps_52 : decode cX12_keeps 52 = .ok (.putfield 194, 3) := dq_181 (a := 0) (b := 194) (fd_r fcX12_keeps (by decide +kernel)) rfl
theorem dX12_keeps_55 : decode cX12_keeps 55 = .ok (.return_, 1) := dq_177 (fd_r fcX12_keeps (by decide +kernel))
theorem dX12_undo_0 : decode cX12_undo 0 = .ok (.aload_n 0, 1) := dq_42 (fd_r fcX12_undo (by decide +kernel))
theorem dX12_undo_1 : decode cX12_undo 1 = .ok (.getfield 194, 3) := dq_180 (a := 0) (b := 194) (fd_r fcX12_undo (by decide +kernel)) rfl
theorem dX12_undo_4 : decode cX12_undo 4 = .ok (.ifCond .ne 17, 3) := dq_154 (a := 0) (b := 17) (fd_r fcX12_undo (by decide +kernel)) rfl
theorem dX12_undo_7 : decode cX12_undo 7 = .ok (.aload_n 0, 1) := dq_42 (fd_r fcX12_undo (by decide +kernel))
theorem dX12_undo_8 : decode cX12_undo 8 = .ok (.iconst 4, 1) := dq_7 (fd_r fcX12_undo (by decide +kernel))
theorem dX12_undo_9 : decode cX12_undo 9 = .ok (.invokevirtual 312, 3) := dq_182 (a := 1) (b := 56) (fd_r fcX12_undo (by decide +kernel)) rfl
theorem dX12_undo_12 : decode cX12_undo 12 = .ok (.ifCond .lt 7, 3) := dq_155 (a := 0) (b := 7) (fd_r fcX12_undo (by decide +kernel)) rfl
theorem dX12_undo_19 : decode cX12_undo 19 = .ok (.iconst 0, 1) := dq_3 (fd_r fcX12_undo (by decide +kernel))
theorem dX12_undo_20 : decode cX12_undo 20 = .ok (.ireturn, 1) := dq_172 (fd_r fcX12_undo (by decide +kernel))
theorem dX12_undo_21 : decode cX12_undo 21 = .ok (.aload_n 0, 1) := dq_42 (fd_r fcX12_undo (by decide +kernel))
theorem dX12_undo_22 : decode cX12_undo 22 = .ok (.dup, 1) := dq_89 (fd_r fcX12_undo (by decide +kernel))
theorem dX12_undo_23 : decode cX12_undo 23 = .ok (.getfield 194, 3) := dq_180 (a := 0) (b := 194) (fd_r fcX12_undo (by decide +kernel)) rfl
theorem dX12_undo_26 : decode cX12_undo 26 = .ok (.iconst 1, 1) := dq_4 (fd_r fcX12_undo (by decide +kernel))
theorem dX12_undo_27 : decode cX12_undo 27 = .ok (.isub, 1) := dq_100 (fd_r fcX12_undo (by decide +kernel))
theorem dX12_undo_28 : decode cX12_undo 28 = .ok (.putfield 194, 3) := dq_181 (a := 0) (b := 194) (fd_r fcX12_undo (by decide +kernel)) rfl
theorem dX12_undo_31 : decode cX12_undo 31 = .ok (.aload_n 0, 1) := dq_42 (fd_r fcX12_undo (by decide +kernel))
theorem dX12_undo_32 : decode cX12_undo 32 = .ok (.iconst 0, 1) := dq_3 (fd_r fcX12_undo (by decide +kernel))
theorem dX12_undo_33 : decode cX12_undo 33 = .ok (.aload_n 0, 1) := dq_42 (fd_r fcX12_undo (by decide +kernel))
theorem dX12_undo_34 : decode cX12_undo 34 = .ok (.aload_n 0, 1) := dq_42 (fd_r fcX12_undo (by decide +kernel))
theorem dX12_undo_35 : decode cX12_undo 35 = .ok (.getfield 194, 3) := dq_180 (a := 0) (b := 194) (fd_r fcX12_undo (by decide +kernel)) rfl
theorem dX12_undo_38 : decode cX12_undo 38 = .ok (.invokevirtual 469, 3) := dq_182 (a := 1) (b := 213) (fd_r fcX12_undo (by decide +kernel)) rfl
theorem dX12_undo_41 : decode cX12_undo 41 = .ok (.invokevirtual 472, 3) := dq_182 (a := 1) (b := 216) (fd_r fcX12_undo (by decide +kernel)) rfl
theorem dX12_undo_44 : decode cX12_undo 44 = .ok (.iconst 1, 1) := dq_4 (fd_r fcX12_undo (by decide +kernel))
theorem dX12_undo_45 : decode cX12_undo 45 = .ok (.ireturn, 1) := dq_172 (fd_r fcX12_undo (by decide +kernel))
theorem dX12_placed_0 : decode cX12_placed 0 = .ok (.iconst 0, 1) := dq_3 (fd_r fcX12_placed (by decide +kernel))
theorem dX12_placed_1 : decode cX12_placed 1 = .ok (.istore_n 3, 1) := dq_62 (fd_r fcX12_placed (by decide +kernel))
theorem dX12_placed_2 : decode cX12_placed 2 = .ok (.iconst 0, 1) := dq_3 (fd_r fcX12_placed (by decide +kernel))
theorem dX12_placed_3 : decode cX12_placed 3 = .ok (.istore 4, 2) := dq_54 (a := 4) (fd_r fcX12_placed (by decide +kernel))
theorem dX12_placed_5 : decode cX12_placed 5 = .ok (.iload 4, 2) := dq_21 (a := 4) (fd_r fcX12_placed (by decide +kernel))
theorem dX12_placed_7 : decode cX12_placed 7 = .ok (.aload_n 0, 1) := dq_42 (fd_r fcX12_placed (by decide +kernel))
theorem dX12_placed_8 : decode cX12_placed 8 = .ok (.getfield 200, 3) := dq_180 (a := 0) (b := 200) (fd_r fcX12_placed (by decide +kernel)) rfl
theorem dX12_placed_11 : decode cX12_placed 11 = .ok (.if_icmp .ge 31, 3) := dq_162 (a := 0) (b := 31) (fd_r fcX12_placed (by decide +kernel)) rfl
theorem dX12_placed_14 : decode cX12_placed 14 = .ok (.iload_n 3, 1) := dq_29 (fd_r fcX12_placed (by decide +kernel))
theorem dX12_placed_15 : decode cX12_placed 15 = .ok (.iload_n 2, 1) := dq_28 (fd_r fcX12_placed (by decide +kernel))
theorem dX12_placed_16 : decode cX12_placed 16 = .ok (.aload_n 0, 1) := dq_42 (fd_r fcX12_placed (by decide +kernel))
theorem dX12_placed_17 : decode cX12_placed 17 = .ok (.getfield 176, 3) := dq_180 (a := 0) (b := 176) (fd_r fcX12_placed (by decide +kernel)) rfl
theorem dX12_placed_20 : decode cX12_placed 20 = .ok (.bipush 12, 2) := dq_16 (a := 12) (fd_r fcX12_placed (by decide +kernel)) rfl
theorem dX12_placed_22 : decode cX12_placed 22 = .ok (.iload_n 1, 1) := dq_27 (fd_r fcX12_placed (by decide +kernel))
theorem dX12_placed_23 : decode cX12_placed 23 = .ok (.imul, 1) := dq_104 (fd_r fcX12_placed (by decide +kernel))
theorem dX12_placed_24 : decode cX12_placed 24 = .ok (.iload 4, 2) := dq_21 (a := 4) (fd_r fcX12_placed (by decide +kernel))
theorem dX12_placed_26 : decode cX12_placed 26 = .ok (.iadd, 1) := dq_96 (fd_r fcX12_placed (by decide +kernel))
theorem dX12_placed_27 : decode cX12_placed 27 = .ok (.iaload, 1) := dq_46 (fd_r fcX12_placed (by decide +kernel))
theorem dX12_placed_28 : decode cX12_placed 28 = .ok (.ishr, 1) := dq_122 (fd_r fcX12_placed (by decide +kernel))
theorem dX12_placed_29 : decode cX12_placed 29 = .ok (.iconst 1, 1) := dq_4 (fd_r fcX12_placed (by decide +kernel))
theorem dX12_placed_30 : decode cX12_placed 30 = .ok (.iand, 1) := dq_126 (fd_r fcX12_placed (by decide +kernel))
theorem dX12_placed_31 : decode cX12_placed 31 = .ok (.iload 4, 2) := dq_21 (a := 4) (fd_r fcX12_placed (by decide +kernel))
theorem dX12_placed_33 : decode cX12_placed 33 = .ok (.ishl, 1) := dq_120 (fd_r fcX12_placed (by decide +kernel))
theorem dX12_placed_34 : decode cX12_placed 34 = .ok (.ior, 1) := dq_128 (fd_r fcX12_placed (by decide +kernel))
theorem dX12_placed_35 : decode cX12_placed 35 = .ok (.istore_n 3, 1) := dq_62 (fd_r fcX12_placed (by decide +kernel))
theorem dX12_placed_36 : decode cX12_placed 36 = .ok (.iinc 4 1, 3) := dq_132 (a := 4) (b := 1) (fd_r fcX12_placed (by decide +kernel)) rfl
theorem dX12_placed_39 : decode cX12_placed 39 = .ok (.goto (-34), 3) := dq_167 (a := 255) (b := 222) (fd_r fcX12_placed (by decide +kernel)) rfl
theorem dX12_placed_42 : decode cX12_placed 42 = .ok (.iload_n 3, 1) := dq_29 (fd_r fcX12_placed (by decide +kernel))
theorem dX12_placed_43 : decode cX12_placed 43 = .ok (.ireturn, 1) := dq_172 (fd_r fcX12_placed (by decide +kernel))
theorem dX12_arranges_0 : decode cX12_arranges 0 = .ok (.aload_n 0, 1) := dq_42 (fd_r fcX12_arranges (by decide +kernel))
theorem dX12_arranges_1 : decode cX12_arranges 1 = .ok (.aload_n 0, 1) := dq_42 (fd_r fcX12_arranges (by decide +kernel))
theorem dX12_arranges_2 : decode cX12_arranges 2 = .ok (.getfield 173, 3) := dq_180 (a := 0) (b := 173) (fd_r fcX12_arranges (by decide +kernel)) rfl
theorem dX12_arranges_5 : decode cX12_arranges 5 = .ok (.iload_n 1, 1) := dq_27 (fd_r fcX12_arranges (by decide +kernel))
theorem dX12_arranges_6 : decode cX12_arranges 6 = .ok (.iaload, 1) := dq_46 (fd_r fcX12_arranges (by decide +kernel))
theorem dX12_arranges_7 : decode cX12_arranges 7 = .ok (.putfield 200, 3) := dq_181 (a := 0) (b := 200) (fd_r fcX12_arranges (by decide +kernel)) rfl
theorem dX12_arranges_10 : decode cX12_arranges 10 = .ok (.aload_n 0, 1) := dq_42 (fd_r fcX12_arranges (by decide +kernel))
theorem dX12_arranges_11 : decode cX12_arranges 11 = .ok (.iconst 0, 1) := dq_3 (fd_r fcX12_arranges (by decide +kernel))
theorem dX12_arranges_12 : decode cX12_arranges 12 = .ok (.putfield 212, 3) := dq_181 (a := 0) (b := 212) (fd_r fcX12_arranges (by decide +kernel)) rfl
theorem dX12_arranges_15 : decode cX12_arranges 15 = .ok (.iconst 0, 1) := dq_3 (fd_r fcX12_arranges (by decide +kernel))
theorem dX12_arranges_16 : decode cX12_arranges 16 = .ok (.istore_n 2, 1) := dq_61 (fd_r fcX12_arranges (by decide +kernel))
theorem dX12_arranges_17 : decode cX12_arranges 17 = .ok (.iload_n 2, 1) := dq_28 (fd_r fcX12_arranges (by decide +kernel))
theorem dX12_arranges_18 : decode cX12_arranges 18 = .ok (.aload_n 0, 1) := dq_42 (fd_r fcX12_arranges (by decide +kernel))
theorem dX12_arranges_19 : decode cX12_arranges 19 = .ok (.getfield 200, 3) := dq_180 (a := 0) (b := 200) (fd_r fcX12_arranges (by decide +kernel)) rfl
theorem dX12_arranges_22 : decode cX12_arranges 22 = .ok (.if_icmp .ge 65, 3) := dq_162 (a := 0) (b := 65) (fd_r fcX12_arranges (by decide +kernel)) rfl
theorem dX12_arranges_25 : decode cX12_arranges 25 = .ok (.aload_n 0, 1) := dq_42 (fd_r fcX12_arranges (by decide +kernel))
theorem dX12_arranges_26 : decode cX12_arranges 26 = .ok (.getfield 209, 3) := dq_180 (a := 0) (b := 209) (fd_r fcX12_arranges (by decide +kernel)) rfl
theorem dX12_arranges_29 : decode cX12_arranges 29 = .ok (.iload_n 2, 1) := dq_28 (fd_r fcX12_arranges (by decide +kernel))
theorem dX12_arranges_30 : decode cX12_arranges 30 = .ok (.aload_n 0, 1) := dq_42 (fd_r fcX12_arranges (by decide +kernel))
theorem dX12_arranges_31 : decode cX12_arranges 31 = .ok (.getfield 90, 3) := dq_180 (a := 0) (b := 90) (fd_r fcX12_arranges (by decide +kernel)) rfl
theorem dX12_arranges_34 : decode cX12_arranges 34 = .ok (.bipush 12, 2) := dq_16 (a := 12) (fd_r fcX12_arranges (by decide +kernel)) rfl
theorem dX12_arranges_36 : decode cX12_arranges 36 = .ok (.aload_n 0, 1) := dq_42 (fd_r fcX12_arranges (by decide +kernel))
theorem dX12_arranges_37 : decode cX12_arranges 37 = .ok (.getfield 51, 3) := dq_180 (a := 0) (b := 51) (fd_r fcX12_arranges (by decide +kernel)) rfl
theorem dX12_arranges_40 : decode cX12_arranges 40 = .ok (.imul, 1) := dq_104 (fd_r fcX12_arranges (by decide +kernel))
theorem dX12_arranges_41 : decode cX12_arranges 41 = .ok (.aload_n 0, 1) := dq_42 (fd_r fcX12_arranges (by decide +kernel))
theorem dX12_arranges_42 : decode cX12_arranges 42 = .ok (.getfield 176, 3) := dq_180 (a := 0) (b := 176) (fd_r fcX12_arranges (by decide +kernel)) rfl
theorem dX12_arranges_45 : decode cX12_arranges 45 = .ok (.bipush 12, 2) := dq_16 (a := 12) (fd_r fcX12_arranges (by decide +kernel)) rfl
theorem dX12_arranges_47 : decode cX12_arranges 47 = .ok (.iload_n 1, 1) := dq_27 (fd_r fcX12_arranges (by decide +kernel))
theorem dX12_arranges_48 : decode cX12_arranges 48 = .ok (.imul, 1) := dq_104 (fd_r fcX12_arranges (by decide +kernel))
theorem dX12_arranges_49 : decode cX12_arranges 49 = .ok (.iload_n 2, 1) := dq_28 (fd_r fcX12_arranges (by decide +kernel))
theorem dX12_arranges_50 : decode cX12_arranges 50 = .ok (.iadd, 1) := dq_96 (fd_r fcX12_arranges (by decide +kernel))
theorem dX12_arranges_51 : decode cX12_arranges 51 = .ok (.iaload, 1) := dq_46 (fd_r fcX12_arranges (by decide +kernel))
theorem dX12_arranges_52 : decode cX12_arranges 52 = .ok (.iadd, 1) := dq_96 (fd_r fcX12_arranges (by decide +kernel))
theorem dX12_arranges_53 : decode cX12_arranges 53 = .ok (.iaload, 1) := dq_46 (fd_r fcX12_arranges (by decide +kernel))
theorem dX12_arranges_54 : decode cX12_arranges 54 = .ok (.iastore, 1) := dq_79 (fd_r fcX12_arranges (by decide +kernel))
theorem dX12_arranges_55 : decode cX12_arranges 55 = .ok (.aload_n 0, 1) := dq_42 (fd_r fcX12_arranges (by decide +kernel))
theorem dX12_arranges_56 : decode cX12_arranges 56 = .ok (.dup, 1) := dq_89 (fd_r fcX12_arranges (by decide +kernel))
theorem dX12_arranges_57 : decode cX12_arranges 57 = .ok (.getfield 212, 3) := dq_180 (a := 0) (b := 212) (fd_r fcX12_arranges (by decide +kernel)) rfl
theorem dX12_arranges_60 : decode cX12_arranges 60 = .ok (.aload_n 0, 1) := dq_42 (fd_r fcX12_arranges (by decide +kernel))
theorem dX12_arranges_61 : decode cX12_arranges 61 = .ok (.getfield 209, 3) := dq_180 (a := 0) (b := 209) (fd_r fcX12_arranges (by decide +kernel)) rfl
theorem dX12_arranges_64 : decode cX12_arranges 64 = .ok (.iload_n 2, 1) := dq_28 (fd_r fcX12_arranges (by decide +kernel))
theorem dX12_arranges_65 : decode cX12_arranges 65 = .ok (.iaload, 1) := dq_46 (fd_r fcX12_arranges (by decide +kernel))
theorem dX12_arranges_66 : decode cX12_arranges 66 = .ok (.iconst (-1), 1) := dq_2 (fd_r fcX12_arranges (by decide +kernel))
theorem dX12_arranges_67 : decode cX12_arranges 67 = .ok (.if_icmp .ne 9, 3) := dq_160 (a := 0) (b := 9) (fd_r fcX12_arranges (by decide +kernel)) rfl
theorem dX12_arranges_70 : decode cX12_arranges 70 = .ok (.iconst 1, 1) := dq_4 (fd_r fcX12_arranges (by decide +kernel))
theorem dX12_arranges_71 : decode cX12_arranges 71 = .ok (.iload_n 2, 1) := dq_28 (fd_r fcX12_arranges (by decide +kernel))
theorem dX12_arranges_72 : decode cX12_arranges 72 = .ok (.ishl, 1) := dq_120 (fd_r fcX12_arranges (by decide +kernel))
theorem dX12_arranges_73 : decode cX12_arranges 73 = .ok (.goto 4, 3) := dq_167 (a := 0) (b := 4) (fd_r fcX12_arranges (by decide +kernel)) rfl
theorem dX12_arranges_76 : decode cX12_arranges 76 = .ok (.iconst 0, 1) := dq_3 (fd_r fcX12_arranges (by decide +kernel))
theorem dX12_arranges_77 : decode cX12_arranges 77 = .ok (.ior, 1) := dq_128 (fd_r fcX12_arranges (by decide +kernel))
theorem dX12_arranges_78 : decode cX12_arranges 78 = .ok (.putfield 212, 3) := dq_181 (a := 0) (b := 212) (fd_r fcX12_arranges (by decide +kernel)) rfl
theorem dX12_arranges_81 : decode cX12_arranges 81 = .ok (.iinc 2 1, 3) := dq_132 (a := 2) (b := 1) (fd_r fcX12_arranges (by decide +kernel)) rfl
theorem dX12_arranges_84 : decode cX12_arranges 84 = .ok (.goto (-67), 3) := dq_167 (a := 255) (b := 189) (fd_r fcX12_arranges (by decide +kernel)) rfl
theorem dX12_arranges_87 : decode cX12_arranges 87 = .ok (.iconst 0, 1) := dq_3 (fd_r fcX12_arranges (by decide +kernel))
theorem dX12_arranges_88 : decode cX12_arranges 88 = .ok (.istore_n 2, 1) := dq_61 (fd_r fcX12_arranges (by decide +kernel))
theorem dX12_arranges_89 : decode cX12_arranges 89 = .ok (.iload_n 2, 1) := dq_28 (fd_r fcX12_arranges (by decide +kernel))
theorem dX12_arranges_90 : decode cX12_arranges 90 = .ok (.aload_n 0, 1) := dq_42 (fd_r fcX12_arranges (by decide +kernel))
theorem dX12_arranges_91 : decode cX12_arranges 91 = .ok (.invokevirtual 459, 3) := dq_182 (a := 1) (b := 203) (fd_r fcX12_arranges (by decide +kernel)) rfl
theorem dX12_arranges_94 : decode cX12_arranges 94 = .ok (.if_icmp .ge 91, 3) := dq_162 (a := 0) (b := 91) (fd_r fcX12_arranges (by decide +kernel)) rfl
theorem dX12_arranges_97 : decode cX12_arranges 97 = .ok (.aload_n 0, 1) := dq_42 (fd_r fcX12_arranges (by decide +kernel))
theorem dX12_arranges_98 : decode cX12_arranges 98 = .ok (.getfield 206, 3) := dq_180 (a := 0) (b := 206) (fd_r fcX12_arranges (by decide +kernel)) rfl
theorem dX12_arranges_101 : decode cX12_arranges 101 = .ok (.iload_n 2, 1) := dq_28 (fd_r fcX12_arranges (by decide +kernel))
theorem dX12_arranges_102 : decode cX12_arranges 102 = .ok (.iconst 1, 1) := dq_4 (fd_r fcX12_arranges (by decide +kernel))
theorem dX12_arranges_103 : decode cX12_arranges 103 = .ok (.aload_n 0, 1) := dq_42 (fd_r fcX12_arranges (by decide +kernel))
theorem dX12_arranges_104 : decode cX12_arranges 104 = .ok (.getfield 200, 3) := dq_180 (a := 0) (b := 200) (fd_r fcX12_arranges (by decide +kernel)) rfl
theorem dX12_arranges_107 : decode cX12_arranges 107 = .ok (.ishl, 1) := dq_120 (fd_r fcX12_arranges (by decide +kernel))
theorem dX12_arranges_108 : decode cX12_arranges 108 = .ok (.iconst 1, 1) := dq_4 (fd_r fcX12_arranges (by decide +kernel))
theorem dX12_arranges_109 : decode cX12_arranges 109 = .ok (.isub, 1) := dq_100 (fd_r fcX12_arranges (by decide +kernel))
theorem dX12_arranges_110 : decode cX12_arranges 110 = .ok (.iastore, 1) := dq_79 (fd_r fcX12_arranges (by decide +kernel))
theorem dX12_arranges_111 : decode cX12_arranges 111 = .ok (.iconst 0, 1) := dq_3 (fd_r fcX12_arranges (by decide +kernel))
theorem dX12_arranges_112 : decode cX12_arranges 112 = .ok (.istore_n 3, 1) := dq_62 (fd_r fcX12_arranges (by decide +kernel))
theorem dX12_arranges_113 : decode cX12_arranges 113 = .ok (.iload_n 3, 1) := dq_29 (fd_r fcX12_arranges (by decide +kernel))
theorem dX12_arranges_114 : decode cX12_arranges 114 = .ok (.aload_n 0, 1) := dq_42 (fd_r fcX12_arranges (by decide +kernel))
theorem dX12_arranges_115 : decode cX12_arranges 115 = .ok (.getfield 164, 3) := dq_180 (a := 0) (b := 164) (fd_r fcX12_arranges (by decide +kernel)) rfl
theorem dX12_arranges_118 : decode cX12_arranges 118 = .ok (.iload_n 2, 1) := dq_28 (fd_r fcX12_arranges (by decide +kernel))
theorem dX12_arranges_119 : decode cX12_arranges 119 = .ok (.iaload, 1) := dq_46 (fd_r fcX12_arranges (by decide +kernel))
theorem dX12_arranges_120 : decode cX12_arranges 120 = .ok (.if_icmp .ge 59, 3) := dq_162 (a := 0) (b := 59) (fd_r fcX12_arranges (by decide +kernel)) rfl
theorem dX12_arranges_123 : decode cX12_arranges 123 = .ok (.aload_n 0, 1) := dq_42 (fd_r fcX12_arranges (by decide +kernel))
theorem dX12_arranges_124 : decode cX12_arranges 124 = .ok (.getfield 203, 3) := dq_180 (a := 0) (b := 203) (fd_r fcX12_arranges (by decide +kernel)) rfl
theorem dX12_arranges_127 : decode cX12_arranges 127 = .ok (.sipush 2010, 3) := dq_17 (a := 7) (b := 218) (fd_r fcX12_arranges (by decide +kernel)) rfl
theorem dX12_arranges_130 : decode cX12_arranges 130 = .ok (.iload_n 2, 1) := dq_28 (fd_r fcX12_arranges (by decide +kernel))
theorem dX12_arranges_131 : decode cX12_arranges 131 = .ok (.imul, 1) := dq_104 (fd_r fcX12_arranges (by decide +kernel))
theorem dX12_arranges_132 : decode cX12_arranges 132 = .ok (.iload_n 3, 1) := dq_29 (fd_r fcX12_arranges (by decide +kernel))
theorem dX12_arranges_133 : decode cX12_arranges 133 = .ok (.iadd, 1) := dq_96 (fd_r fcX12_arranges (by decide +kernel))
theorem dX12_arranges_134 : decode cX12_arranges 134 = .ok (.aload_n 0, 1) := dq_42 (fd_r fcX12_arranges (by decide +kernel))
theorem dX12_arranges_135 : decode cX12_arranges 135 = .ok (.iload_n 1, 1) := dq_27 (fd_r fcX12_arranges (by decide +kernel))
theorem dX12_arranges_136 : decode cX12_arranges 136 = .ok (.aload_n 0, 1) := dq_42 (fd_r fcX12_arranges (by decide +kernel))
theorem dX12_arranges_137 : decode cX12_arranges 137 = .ok (.getfield 161, 3) := dq_180 (a := 0) (b := 161) (fd_r fcX12_arranges (by decide +kernel)) rfl
theorem dX12_arranges_140 : decode cX12_arranges 140 = .ok (.sipush 2010, 3) := dq_17 (a := 7) (b := 218) (fd_r fcX12_arranges (by decide +kernel)) rfl
theorem dX12_arranges_143 : decode cX12_arranges 143 = .ok (.iload_n 2, 1) := dq_28 (fd_r fcX12_arranges (by decide +kernel))
theorem dX12_arranges_144 : decode cX12_arranges 144 = .ok (.imul, 1) := dq_104 (fd_r fcX12_arranges (by decide +kernel))
theorem dX12_arranges_145 : decode cX12_arranges 145 = .ok (.iload_n 3, 1) := dq_29 (fd_r fcX12_arranges (by decide +kernel))
theorem dX12_arranges_146 : decode cX12_arranges 146 = .ok (.iadd, 1) := dq_96 (fd_r fcX12_arranges (by decide +kernel))
theorem dX12_arranges_147 : decode cX12_arranges 147 = .ok (.iaload, 1) := dq_46 (fd_r fcX12_arranges (by decide +kernel))
theorem dX12_arranges_148 : decode cX12_arranges 148 = .ok (.invokevirtual 475, 3) := dq_182 (a := 1) (b := 219) (fd_r fcX12_arranges (by decide +kernel)) rfl
theorem dX12_arranges_151 : decode cX12_arranges 151 = .ok (.iastore, 1) := dq_79 (fd_r fcX12_arranges (by decide +kernel))
theorem dX12_arranges_152 : decode cX12_arranges 152 = .ok (.aload_n 0, 1) := dq_42 (fd_r fcX12_arranges (by decide +kernel))
theorem dX12_arranges_153 : decode cX12_arranges 153 = .ok (.getfield 206, 3) := dq_180 (a := 0) (b := 206) (fd_r fcX12_arranges (by decide +kernel)) rfl
theorem dX12_arranges_156 : decode cX12_arranges 156 = .ok (.iload_n 2, 1) := dq_28 (fd_r fcX12_arranges (by decide +kernel))
theorem dX12_arranges_157 : decode cX12_arranges 157 = .ok (.dup2, 1) := dq_92 (fd_r fcX12_arranges (by decide +kernel))
theorem dX12_arranges_158 : decode cX12_arranges 158 = .ok (.iaload, 1) := dq_46 (fd_r fcX12_arranges (by decide +kernel))
theorem dX12_arranges_159 : decode cX12_arranges 159 = .ok (.aload_n 0, 1) := dq_42 (fd_r fcX12_arranges (by decide +kernel))
theorem dX12_arranges_160 : decode cX12_arranges 160 = .ok (.getfield 203, 3) := dq_180 (a := 0) (b := 203) (fd_r fcX12_arranges (by decide +kernel)) rfl
theorem dX12_arranges_163 : decode cX12_arranges 163 = .ok (.sipush 2010, 3) := dq_17 (a := 7) (b := 218) (fd_r fcX12_arranges (by decide +kernel)) rfl
theorem dX12_arranges_166 : decode cX12_arranges 166 = .ok (.iload_n 2, 1) := dq_28 (fd_r fcX12_arranges (by decide +kernel))
theorem dX12_arranges_167 : decode cX12_arranges 167 = .ok (.imul, 1) := dq_104 (fd_r fcX12_arranges (by decide +kernel))
theorem dX12_arranges_168 : decode cX12_arranges 168 = .ok (.iload_n 3, 1) := dq_29 (fd_r fcX12_arranges (by decide +kernel))
theorem dX12_arranges_169 : decode cX12_arranges 169 = .ok (.iadd, 1) := dq_96 (fd_r fcX12_arranges (by decide +kernel))
theorem dX12_arranges_170 : decode cX12_arranges 170 = .ok (.iaload, 1) := dq_46 (fd_r fcX12_arranges (by decide +kernel))
theorem dX12_arranges_171 : decode cX12_arranges 171 = .ok (.iand, 1) := dq_126 (fd_r fcX12_arranges (by decide +kernel))
theorem dX12_arranges_172 : decode cX12_arranges 172 = .ok (.iastore, 1) := dq_79 (fd_r fcX12_arranges (by decide +kernel))
theorem dX12_arranges_173 : decode cX12_arranges 173 = .ok (.iinc 3 1, 3) := dq_132 (a := 3) (b := 1) (fd_r fcX12_arranges (by decide +kernel)) rfl
theorem dX12_arranges_176 : decode cX12_arranges 176 = .ok (.goto (-63), 3) := dq_167 (a := 255) (b := 193) (fd_r fcX12_arranges (by decide +kernel)) rfl
theorem dX12_arranges_179 : decode cX12_arranges 179 = .ok (.iinc 2 1, 3) := dq_132 (a := 2) (b := 1) (fd_r fcX12_arranges (by decide +kernel)) rfl
theorem dX12_arranges_182 : decode cX12_arranges 182 = .ok (.goto (-93), 3) := dq_167 (a := 255) (b := 163) (fd_r fcX12_arranges (by decide +kernel)) rfl
theorem dX12_arranges_185 : decode cX12_arranges 185 = .ok (.aload_n 0, 1) := dq_42 (fd_r fcX12_arranges (by decide +kernel))
theorem dX12_arranges_186 : decode cX12_arranges 186 = .ok (.dup, 1) := dq_89 (fd_r fcX12_arranges (by decide +kernel))
theorem dX12_arranges_187 : decode cX12_arranges 187 = .ok (.getfield 236, 3) := dq_180 (a := 0) (b := 236) (fd_r fcX12_arranges (by decide +kernel)) rfl
theorem dX12_arranges_190 : decode cX12_arranges 190 = .ok (.iconst 1, 1) := dq_4 (fd_r fcX12_arranges (by decide +kernel))
theorem dX12_arranges_191 : decode cX12_arranges 191 = .ok (.iadd, 1) := dq_96 (fd_r fcX12_arranges (by decide +kernel))
theorem dX12_arranges_192 : decode cX12_arranges 192 = .ok (.putfield 236, 3) := dq_181 (a := 0) (b := 236) (fd_r fcX12_arranges (by decide +kernel)) rfl
theorem dX12_arranges_195 : decode cX12_arranges 195 = .ok (.return_, 1) := dq_177 (fd_r fcX12_arranges (by decide +kernel))
theorem dX12_openBy_0 : decode cX12_openBy 0 = .ok (.aload_n 0, 1) := dq_42 (fd_r fcX12_openBy (by decide +kernel))
theorem dX12_openBy_1 : decode cX12_openBy 1 = .ok (.getfield 212, 3) := dq_180 (a := 0) (b := 212) (fd_r fcX12_openBy (by decide +kernel)) rfl
theorem dX12_openBy_4 : decode cX12_openBy 4 = .ok (.istore_n 2, 1) := dq_61 (fd_r fcX12_openBy (by decide +kernel))
theorem dX12_openBy_5 : decode cX12_openBy 5 = .ok (.iconst 0, 1) := dq_3 (fd_r fcX12_openBy (by decide +kernel))
theorem dX12_openBy_6 : decode cX12_openBy 6 = .ok (.istore_n 3, 1) := dq_62 (fd_r fcX12_openBy (by decide +kernel))
theorem dX12_openBy_7 : decode cX12_openBy 7 = .ok (.iload_n 3, 1) := dq_29 (fd_r fcX12_openBy (by decide +kernel))
theorem dX12_openBy_8 : decode cX12_openBy 8 = .ok (.aload_n 0, 1) := dq_42 (fd_r fcX12_openBy (by decide +kernel))
theorem dX12_openBy_9 : decode cX12_openBy 9 = .ok (.getfield 200, 3) := dq_180 (a := 0) (b := 200) (fd_r fcX12_openBy (by decide +kernel)) rfl
theorem dX12_openBy_12 : decode cX12_openBy 12 = .ok (.if_icmp .ge 43, 3) := dq_162 (a := 0) (b := 43) (fd_r fcX12_openBy (by decide +kernel)) rfl
theorem dX12_openBy_15 : decode cX12_openBy 15 = .ok (.iload_n 2, 1) := dq_28 (fd_r fcX12_openBy (by decide +kernel))
theorem dX12_openBy_16 : decode cX12_openBy 16 = .ok (.aload_n 0, 1) := dq_42 (fd_r fcX12_openBy (by decide +kernel))
theorem dX12_openBy_17 : decode cX12_openBy 17 = .ok (.getfield 209, 3) := dq_180 (a := 0) (b := 209) (fd_r fcX12_openBy (by decide +kernel)) rfl
theorem dX12_openBy_20 : decode cX12_openBy 20 = .ok (.iload_n 3, 1) := dq_29 (fd_r fcX12_openBy (by decide +kernel))
theorem dX12_openBy_21 : decode cX12_openBy 21 = .ok (.iaload, 1) := dq_46 (fd_r fcX12_openBy (by decide +kernel))
theorem dX12_openBy_22 : decode cX12_openBy 22 = .ok (.iconst (-1), 1) := dq_2 (fd_r fcX12_openBy (by decide +kernel))
theorem dX12_openBy_23 : decode cX12_openBy 23 = .ok (.if_icmp .eq 23, 3) := dq_159 (a := 0) (b := 23) (fd_r fcX12_openBy (by decide +kernel)) rfl
theorem dX12_openBy_26 : decode cX12_openBy 26 = .ok (.iload_n 1, 1) := dq_27 (fd_r fcX12_openBy (by decide +kernel))
theorem dX12_openBy_27 : decode cX12_openBy 27 = .ok (.aload_n 0, 1) := dq_42 (fd_r fcX12_openBy (by decide +kernel))
theorem dX12_openBy_28 : decode cX12_openBy 28 = .ok (.getfield 209, 3) := dq_180 (a := 0) (b := 209) (fd_r fcX12_openBy (by decide +kernel)) rfl
theorem dX12_openBy_31 : decode cX12_openBy 31 = .ok (.iload_n 3, 1) := dq_29 (fd_r fcX12_openBy (by decide +kernel))
theorem dX12_openBy_32 : decode cX12_openBy 32 = .ok (.iaload, 1) := dq_46 (fd_r fcX12_openBy (by decide +kernel))
theorem dX12_openBy_33 : decode cX12_openBy 33 = .ok (.ishr, 1) := dq_122 (fd_r fcX12_openBy (by decide +kernel))
theorem dX12_openBy_34 : decode cX12_openBy 34 = .ok (.iconst 1, 1) := dq_4 (fd_r fcX12_openBy (by decide +kernel))
theorem dX12_openBy_35 : decode cX12_openBy 35 = .ok (.iand, 1) := dq_126 (fd_r fcX12_openBy (by decide +kernel))
theorem dX12_openBy_36 : decode cX12_openBy 36 = .ok (.iconst 1, 1) := dq_4 (fd_r fcX12_openBy (by decide +kernel))
theorem dX12_openBy_37 : decode cX12_openBy 37 = .ok (.if_icmp .ne 9, 3) := dq_160 (a := 0) (b := 9) (fd_r fcX12_openBy (by decide +kernel)) rfl
theorem dX12_openBy_40 : decode cX12_openBy 40 = .ok (.iconst 1, 1) := dq_4 (fd_r fcX12_openBy (by decide +kernel))
theorem dX12_openBy_41 : decode cX12_openBy 41 = .ok (.iload_n 3, 1) := dq_29 (fd_r fcX12_openBy (by decide +kernel))
theorem dX12_openBy_42 : decode cX12_openBy 42 = .ok (.ishl, 1) := dq_120 (fd_r fcX12_openBy (by decide +kernel))
theorem dX12_openBy_43 : decode cX12_openBy 43 = .ok (.goto 4, 3) := dq_167 (a := 0) (b := 4) (fd_r fcX12_openBy (by decide +kernel)) rfl
theorem dX12_openBy_46 : decode cX12_openBy 46 = .ok (.iconst 0, 1) := dq_3 (fd_r fcX12_openBy (by decide +kernel))
theorem dX12_openBy_47 : decode cX12_openBy 47 = .ok (.ior, 1) := dq_128 (fd_r fcX12_openBy (by decide +kernel))
theorem dX12_openBy_48 : decode cX12_openBy 48 = .ok (.istore_n 2, 1) := dq_61 (fd_r fcX12_openBy (by decide +kernel))
theorem dX12_openBy_49 : decode cX12_openBy 49 = .ok (.iinc 3 1, 3) := dq_132 (a := 3) (b := 1) (fd_r fcX12_openBy (by decide +kernel)) rfl
theorem dX12_openBy_52 : decode cX12_openBy 52 = .ok (.goto (-45), 3) := dq_167 (a := 255) (b := 211) (fd_r fcX12_openBy (by decide +kernel)) rfl
theorem dX12_openBy_55 : decode cX12_openBy 55 = .ok (.iload_n 2, 1) := dq_28 (fd_r fcX12_openBy (by decide +kernel))
theorem dX12_openBy_56 : decode cX12_openBy 56 = .ok (.ireturn, 1) := dq_172 (fd_r fcX12_openBy (by decide +kernel))
theorem dX12_lowest_0 : decode cX12_lowest 0 = .ok (.iload_n 0, 1) := dq_26 (fd_r fcX12_lowest (by decide +kernel))
theorem dX12_lowest_1 : decode cX12_lowest 1 = .ok (.ifCond .ne 5, 3) := dq_154 (a := 0) (b := 5) (fd_r fcX12_lowest (by decide +kernel)) rfl
theorem dX12_lowest_4 : decode cX12_lowest 4 = .ok (.iconst (-1), 1) := dq_2 (fd_r fcX12_lowest (by decide +kernel))
theorem dX12_lowest_5 : decode cX12_lowest 5 = .ok (.ireturn, 1) := dq_172 (fd_r fcX12_lowest (by decide +kernel))
theorem dX12_lowest_6 : decode cX12_lowest 6 = .ok (.iconst 0, 1) := dq_3 (fd_r fcX12_lowest (by decide +kernel))
theorem dX12_lowest_7 : decode cX12_lowest 7 = .ok (.istore_n 1, 1) := dq_60 (fd_r fcX12_lowest (by decide +kernel))
theorem dX12_lowest_8 : decode cX12_lowest 8 = .ok (.iload_n 0, 1) := dq_26 (fd_r fcX12_lowest (by decide +kernel))
theorem dX12_lowest_9 : decode cX12_lowest 9 = .ok (.iload_n 1, 1) := dq_27 (fd_r fcX12_lowest (by decide +kernel))
theorem dX12_lowest_10 : decode cX12_lowest 10 = .ok (.ishr, 1) := dq_122 (fd_r fcX12_lowest (by decide +kernel))
theorem dX12_lowest_11 : decode cX12_lowest 11 = .ok (.iconst 1, 1) := dq_4 (fd_r fcX12_lowest (by decide +kernel))
theorem dX12_lowest_12 : decode cX12_lowest 12 = .ok (.iand, 1) := dq_126 (fd_r fcX12_lowest (by decide +kernel))
theorem dX12_lowest_13 : decode cX12_lowest 13 = .ok (.ifCond .ne 9, 3) := dq_154 (a := 0) (b := 9) (fd_r fcX12_lowest (by decide +kernel)) rfl
theorem dX12_lowest_16 : decode cX12_lowest 16 = .ok (.iinc 1 1, 3) := dq_132 (a := 1) (b := 1) (fd_r fcX12_lowest (by decide +kernel)) rfl
theorem dX12_lowest_19 : decode cX12_lowest 19 = .ok (.goto (-11), 3) := dq_167 (a := 255) (b := 245) (fd_r fcX12_lowest (by decide +kernel)) rfl
theorem dX12_lowest_22 : decode cX12_lowest 22 = .ok (.iload_n 1, 1) := dq_27 (fd_r fcX12_lowest (by decide +kernel))
theorem dX12_lowest_23 : decode cX12_lowest 23 = .ok (.ireturn, 1) := dq_172 (fd_r fcX12_lowest (by decide +kernel))
theorem dX12_bitsOf_0 : decode cX12_bitsOf 0 = .ok (.iconst 0, 1) := dq_3 (fd_r fcX12_bitsOf (by decide +kernel))
theorem dX12_bitsOf_1 : decode cX12_bitsOf 1 = .ok (.istore_n 1, 1) := dq_60 (fd_r fcX12_bitsOf (by decide +kernel))
theorem dX12_bitsOf_2 : decode cX12_bitsOf 2 = .ok (.iload_n 0, 1) := dq_26 (fd_r fcX12_bitsOf (by decide +kernel))
theorem dX12_bitsOf_3 : decode cX12_bitsOf 3 = .ok (.istore_n 2, 1) := dq_61 (fd_r fcX12_bitsOf (by decide +kernel))
theorem dX12_bitsOf_4 : decode cX12_bitsOf 4 = .ok (.iload_n 2, 1) := dq_28 (fd_r fcX12_bitsOf (by decide +kernel))
theorem dX12_bitsOf_5 : decode cX12_bitsOf 5 = .ok (.ifCond .le 16, 3) := dq_158 (a := 0) (b := 16) (fd_r fcX12_bitsOf (by decide +kernel)) rfl
theorem dX12_bitsOf_8 : decode cX12_bitsOf 8 = .ok (.iload_n 1, 1) := dq_27 (fd_r fcX12_bitsOf (by decide +kernel))
theorem dX12_bitsOf_9 : decode cX12_bitsOf 9 = .ok (.iload_n 2, 1) := dq_28 (fd_r fcX12_bitsOf (by decide +kernel))
theorem dX12_bitsOf_10 : decode cX12_bitsOf 10 = .ok (.iconst 1, 1) := dq_4 (fd_r fcX12_bitsOf (by decide +kernel))
theorem dX12_bitsOf_11 : decode cX12_bitsOf 11 = .ok (.iand, 1) := dq_126 (fd_r fcX12_bitsOf (by decide +kernel))
theorem dX12_bitsOf_12 : decode cX12_bitsOf 12 = .ok (.iadd, 1) := dq_96 (fd_r fcX12_bitsOf (by decide +kernel))
theorem dX12_bitsOf_13 : decode cX12_bitsOf 13 = .ok (.istore_n 1, 1) := dq_60 (fd_r fcX12_bitsOf (by decide +kernel))
theorem dX12_bitsOf_14 : decode cX12_bitsOf 14 = .ok (.iload_n 2, 1) := dq_28 (fd_r fcX12_bitsOf (by decide +kernel))
theorem dX12_bitsOf_15 : decode cX12_bitsOf 15 = .ok (.iconst 1, 1) := dq_4 (fd_r fcX12_bitsOf (by decide +kernel))
theorem dX12_bitsOf_16 : decode cX12_bitsOf 16 = .ok (.ishr, 1) := dq_122 (fd_r fcX12_bitsOf (by decide +kernel))
theorem dX12_bitsOf_17 : decode cX12_bitsOf 17 = .ok (.istore_n 2, 1) := dq_61 (fd_r fcX12_bitsOf (by decide +kernel))
theorem dX12_bitsOf_18 : decode cX12_bitsOf 18 = .ok (.goto (-14), 3) := dq_167 (a := 255) (b := 242) (fd_r fcX12_bitsOf (by decide +kernel)) rfl
theorem dX12_bitsOf_21 : decode cX12_bitsOf 21 = .ok (.iload_n 1, 1) := dq_27 (fd_r fcX12_bitsOf (by decide +kernel))
theorem dX12_bitsOf_22 : decode cX12_bitsOf 22 = .ok (.ireturn, 1) := dq_172 (fd_r fcX12_bitsOf (by decide +kernel))
theorem dX12_valuesIn_0 : decode cX12_valuesIn 0 = .ok (.iload_n 1, 1) := dq_27 (fd_r fcX12_valuesIn (by decide +kernel))
theorem dX12_valuesIn_1 : decode cX12_valuesIn 1 = .ok (.istore_n 2, 1) := dq_61 (fd_r fcX12_valuesIn (by decide +kernel))
theorem dX12_valuesIn_2 : decode cX12_valuesIn 2 = .ok (.aload_n 0, 1) := dq_42 (fd_r fcX12_valuesIn (by decide +kernel))
theorem dX12_valuesIn_3 : decode cX12_valuesIn 3 = .ok (.invokevirtual 459, 3) := dq_182 (a := 1) (b := 203) (fd_r fcX12_valuesIn (by decide +kernel)) rfl
theorem dX12_valuesIn_6 : decode cX12_valuesIn 6 = .ok (.iconst 1, 1) := dq_4 (fd_r fcX12_valuesIn (by decide +kernel))
theorem dX12_valuesIn_7 : decode cX12_valuesIn 7 = .ok (.isub, 1) := dq_100 (fd_r fcX12_valuesIn (by decide +kernel))
theorem dX12_valuesIn_8 : decode cX12_valuesIn 8 = .ok (.istore_n 3, 1) := dq_62 (fd_r fcX12_valuesIn (by decide +kernel))
theorem dX12_valuesIn_9 : decode cX12_valuesIn 9 = .ok (.iload_n 3, 1) := dq_29 (fd_r fcX12_valuesIn (by decide +kernel))
theorem dX12_valuesIn_10 : decode cX12_valuesIn 10 = .ok (.ifCond .lt 30, 3) := dq_155 (a := 0) (b := 30) (fd_r fcX12_valuesIn (by decide +kernel)) rfl
theorem dX12_valuesIn_13 : decode cX12_valuesIn 13 = .ok (.aload_n 0, 1) := dq_42 (fd_r fcX12_valuesIn (by decide +kernel))
theorem dX12_valuesIn_14 : decode cX12_valuesIn 14 = .ok (.getfield 215, 3) := dq_180 (a := 0) (b := 215) (fd_r fcX12_valuesIn (by decide +kernel)) rfl
theorem dX12_valuesIn_17 : decode cX12_valuesIn 17 = .ok (.iload_n 3, 1) := dq_29 (fd_r fcX12_valuesIn (by decide +kernel))
theorem dX12_valuesIn_18 : decode cX12_valuesIn 18 = .ok (.iload_n 2, 1) := dq_28 (fd_r fcX12_valuesIn (by decide +kernel))
theorem dX12_valuesIn_19 : decode cX12_valuesIn 19 = .ok (.aload_n 0, 1) := dq_42 (fd_r fcX12_valuesIn (by decide +kernel))
theorem dX12_valuesIn_20 : decode cX12_valuesIn 20 = .ok (.iload_n 3, 1) := dq_29 (fd_r fcX12_valuesIn (by decide +kernel))
theorem dX12_valuesIn_21 : decode cX12_valuesIn 21 = .ok (.invokevirtual 463, 3) := dq_182 (a := 1) (b := 207) (fd_r fcX12_valuesIn (by decide +kernel)) rfl
theorem dX12_valuesIn_24 : decode cX12_valuesIn 24 = .ok (.irem, 1) := dq_112 (fd_r fcX12_valuesIn (by decide +kernel))
theorem dX12_valuesIn_25 : decode cX12_valuesIn 25 = .ok (.iastore, 1) := dq_79 (fd_r fcX12_valuesIn (by decide +kernel))
theorem dX12_valuesIn_26 : decode cX12_valuesIn 26 = .ok (.iload_n 2, 1) := dq_28 (fd_r fcX12_valuesIn (by decide +kernel))
theorem dX12_valuesIn_27 : decode cX12_valuesIn 27 = .ok (.aload_n 0, 1) := dq_42 (fd_r fcX12_valuesIn (by decide +kernel))
theorem dX12_valuesIn_28 : decode cX12_valuesIn 28 = .ok (.iload_n 3, 1) := dq_29 (fd_r fcX12_valuesIn (by decide +kernel))
theorem dX12_valuesIn_29 : decode cX12_valuesIn 29 = .ok (.invokevirtual 463, 3) := dq_182 (a := 1) (b := 207) (fd_r fcX12_valuesIn (by decide +kernel)) rfl
theorem dX12_valuesIn_32 : decode cX12_valuesIn 32 = .ok (.idiv, 1) := dq_108 (fd_r fcX12_valuesIn (by decide +kernel))
theorem dX12_valuesIn_33 : decode cX12_valuesIn 33 = .ok (.istore_n 2, 1) := dq_61 (fd_r fcX12_valuesIn (by decide +kernel))
theorem dX12_valuesIn_34 : decode cX12_valuesIn 34 = .ok (.iinc 3 (-1), 3) := dq_132 (a := 3) (b := 255) (fd_r fcX12_valuesIn (by decide +kernel)) rfl
theorem dX12_valuesIn_37 : decode cX12_valuesIn 37 = .ok (.goto (-28), 3) := dq_167 (a := 255) (b := 228) (fd_r fcX12_valuesIn (by decide +kernel)) rfl
theorem dX12_valuesIn_40 : decode cX12_valuesIn 40 = .ok (.return_, 1) := dq_177 (fd_r fcX12_valuesIn (by decide +kernel))
theorem dX12_setIn_0 : decode cX12_setIn 0 = .ok (.aload_n 0, 1) := dq_42 (fd_r fcX12_setIn (by decide +kernel))
theorem dX12_setIn_1 : decode cX12_setIn 1 = .ok (.getfield 203, 3) := dq_180 (a := 0) (b := 203) (fd_r fcX12_setIn (by decide +kernel)) rfl
theorem dX12_setIn_4 : decode cX12_setIn 4 = .ok (.sipush 2010, 3) := dq_17 (a := 7) (b := 218) (fd_r fcX12_setIn (by decide +kernel)) rfl
theorem dX12_setIn_7 : decode cX12_setIn 7 = .ok (.iload_n 1, 1) := dq_27 (fd_r fcX12_setIn (by decide +kernel))
theorem dX12_setIn_8 : decode cX12_setIn 8 = .ok (.imul, 1) := dq_104 (fd_r fcX12_setIn (by decide +kernel))
theorem dX12_setIn_9 : decode cX12_setIn 9 = .ok (.aload_n 0, 1) := dq_42 (fd_r fcX12_setIn (by decide +kernel))
theorem dX12_setIn_10 : decode cX12_setIn 10 = .ok (.getfield 158, 3) := dq_180 (a := 0) (b := 158) (fd_r fcX12_setIn (by decide +kernel)) rfl
theorem dX12_setIn_13 : decode cX12_setIn 13 = .ok (.sipush 2010, 3) := dq_17 (a := 7) (b := 218) (fd_r fcX12_setIn (by decide +kernel)) rfl
end
end
section
section
theorem dX12_setIn_16 : decode cX12_setIn 16 = .ok (.iload_n 1, 1) := dq_27 (fd_r fcX12_setIn (by decide +kernel))
theorem dX12_setIn_17 : decode cX12_setIn 17 = .ok (.imul, 1) := dq_104 (fd_r fcX12_setIn (by decide +kernel))
theorem dX12_setIn_18 : decode cX12_setIn 18 = .ok (.iload_n 2, 1) := dq_28 (fd_r fcX12_setIn (by decide +kernel))
theorem dX12_setIn_19 : decode cX12_setIn 19 = .ok (.iadd, 1) := dq_96 (fd_r fcX12_setIn (by decide +kernel))
theorem dX12_setIn_20 : decode cX12_setIn 20 = .ok (.iaload, 1) := dq_46 (fd_r fcX12_setIn (by decide +kernel))
theorem dX12_setIn_21 : decode cX12_setIn 21 = .ok (.iadd, 1) := dq_96 (fd_r fcX12_setIn (by decide +kernel))
theorem dX12_setIn_22 : decode cX12_setIn 22 = .ok (.iaload, 1) := dq_46 (fd_r fcX12_setIn (by decide +kernel))
theorem dX12_setIn_23 : decode cX12_setIn 23 = .ok (.ireturn, 1) := dq_172 (fd_r fcX12_setIn (by decide +kernel))
theorem dX12_fitting_0 : decode cX12_fitting 0 = .ok (.aload_n 0, 1) := dq_42 (fd_r fcX12_fitting (by decide +kernel))
theorem dX12_fitting_1 : decode cX12_fitting 1 = .ok (.iload_n 1, 1) := dq_27 (fd_r fcX12_fitting (by decide +kernel))
theorem dX12_fitting_2 : decode cX12_fitting 2 = .ok (.invokevirtual 478, 3) := dq_182 (a := 1) (b := 222) (fd_r fcX12_fitting (by decide +kernel)) rfl
theorem dX12_fitting_5 : decode cX12_fitting 5 = .ok (.iconst 1, 1) := dq_4 (fd_r fcX12_fitting (by decide +kernel))
theorem dX12_fitting_6 : decode cX12_fitting 6 = .ok (.aload_n 0, 1) := dq_42 (fd_r fcX12_fitting (by decide +kernel))
theorem dX12_fitting_7 : decode cX12_fitting 7 = .ok (.getfield 200, 3) := dq_180 (a := 0) (b := 200) (fd_r fcX12_fitting (by decide +kernel)) rfl
theorem dX12_fitting_10 : decode cX12_fitting 10 = .ok (.ishl, 1) := dq_120 (fd_r fcX12_fitting (by decide +kernel))
theorem dX12_fitting_11 : decode cX12_fitting 11 = .ok (.iconst 1, 1) := dq_4 (fd_r fcX12_fitting (by decide +kernel))
theorem dX12_fitting_12 : decode cX12_fitting 12 = .ok (.isub, 1) := dq_100 (fd_r fcX12_fitting (by decide +kernel))
theorem dX12_fitting_13 : decode cX12_fitting 13 = .ok (.istore_n 2, 1) := dq_61 (fd_r fcX12_fitting (by decide +kernel))
theorem dX12_fitting_14 : decode cX12_fitting 14 = .ok (.iconst 0, 1) := dq_3 (fd_r fcX12_fitting (by decide +kernel))
theorem dX12_fitting_15 : decode cX12_fitting 15 = .ok (.istore_n 3, 1) := dq_62 (fd_r fcX12_fitting (by decide +kernel))
theorem dX12_fitting_16 : decode cX12_fitting 16 = .ok (.iload_n 3, 1) := dq_29 (fd_r fcX12_fitting (by decide +kernel))
theorem dX12_fitting_17 : decode cX12_fitting 17 = .ok (.aload_n 0, 1) := dq_42 (fd_r fcX12_fitting (by decide +kernel))
theorem dX12_fitting_18 : decode cX12_fitting 18 = .ok (.invokevirtual 459, 3) := dq_182 (a := 1) (b := 203) (fd_r fcX12_fitting (by decide +kernel)) rfl
theorem dX12_fitting_21 : decode cX12_fitting 21 = .ok (.if_icmp .ge 23, 3) := dq_162 (a := 0) (b := 23) (fd_r fcX12_fitting (by decide +kernel)) rfl
theorem dX12_fitting_24 : decode cX12_fitting 24 = .ok (.iload_n 2, 1) := dq_28 (fd_r fcX12_fitting (by decide +kernel))
theorem dX12_fitting_25 : decode cX12_fitting 25 = .ok (.aload_n 0, 1) := dq_42 (fd_r fcX12_fitting (by decide +kernel))
theorem dX12_fitting_26 : decode cX12_fitting 26 = .ok (.iload_n 3, 1) := dq_29 (fd_r fcX12_fitting (by decide +kernel))
theorem dX12_fitting_27 : decode cX12_fitting 27 = .ok (.aload_n 0, 1) := dq_42 (fd_r fcX12_fitting (by decide +kernel))
theorem dX12_fitting_28 : decode cX12_fitting 28 = .ok (.getfield 215, 3) := dq_180 (a := 0) (b := 215) (fd_r fcX12_fitting (by decide +kernel)) rfl
theorem dX12_fitting_31 : decode cX12_fitting 31 = .ok (.iload_n 3, 1) := dq_29 (fd_r fcX12_fitting (by decide +kernel))
theorem dX12_fitting_32 : decode cX12_fitting 32 = .ok (.iaload, 1) := dq_46 (fd_r fcX12_fitting (by decide +kernel))
theorem dX12_fitting_33 : decode cX12_fitting 33 = .ok (.invokevirtual 481, 3) := dq_182 (a := 1) (b := 225) (fd_r fcX12_fitting (by decide +kernel)) rfl
theorem dX12_fitting_36 : decode cX12_fitting 36 = .ok (.iand, 1) := dq_126 (fd_r fcX12_fitting (by decide +kernel))
theorem dX12_fitting_37 : decode cX12_fitting 37 = .ok (.istore_n 2, 1) := dq_61 (fd_r fcX12_fitting (by decide +kernel))
theorem dX12_fitting_38 : decode cX12_fitting 38 = .ok (.iinc 3 1, 3) := dq_132 (a := 3) (b := 1) (fd_r fcX12_fitting (by decide +kernel)) rfl
theorem dX12_fitting_41 : decode cX12_fitting 41 = .ok (.goto (-25), 3) := dq_167 (a := 255) (b := 231) (fd_r fcX12_fitting (by decide +kernel)) rfl
theorem dX12_fitting_44 : decode cX12_fitting 44 = .ok (.iload_n 2, 1) := dq_28 (fd_r fcX12_fitting (by decide +kernel))
theorem dX12_fitting_45 : decode cX12_fitting 45 = .ok (.ireturn, 1) := dq_172 (fd_r fcX12_fitting (by decide +kernel))
theorem dX12_countsRows_0 : decode cX12_countsRows 0 = .ok (.iconst 0, 1) := dq_3 (fd_r fcX12_countsRows (by decide +kernel))
theorem dX12_countsRows_1 : decode cX12_countsRows 1 = .ok (.istore_n 1, 1) := dq_60 (fd_r fcX12_countsRows (by decide +kernel))
theorem dX12_countsRows_2 : decode cX12_countsRows 2 = .ok (.iload_n 1, 1) := dq_27 (fd_r fcX12_countsRows (by decide +kernel))
theorem dX12_countsRows_3 : decode cX12_countsRows 3 = .ok (.sipush 4096, 3) := dq_17 (a := 16) (b := 0) (fd_r fcX12_countsRows (by decide +kernel)) rfl
theorem dX12_countsRows_6 : decode cX12_countsRows 6 = .ok (.if_icmp .ge 16, 3) := dq_162 (a := 0) (b := 16) (fd_r fcX12_countsRows (by decide +kernel)) rfl
theorem dX12_countsRows_9 : decode cX12_countsRows 9 = .ok (.aload_n 0, 1) := dq_42 (fd_r fcX12_countsRows (by decide +kernel))
theorem dX12_countsRows_10 : decode cX12_countsRows 10 = .ok (.getfield 218, 3) := dq_180 (a := 0) (b := 218) (fd_r fcX12_countsRows (by decide +kernel)) rfl
theorem dX12_countsRows_13 : decode cX12_countsRows 13 = .ok (.iload_n 1, 1) := dq_27 (fd_r fcX12_countsRows (by decide +kernel))
theorem dX12_countsRows_14 : decode cX12_countsRows 14 = .ok (.iconst 0, 1) := dq_3 (fd_r fcX12_countsRows (by decide +kernel))
theorem dX12_countsRows_15 : decode cX12_countsRows 15 = .ok (.iastore, 1) := dq_79 (fd_r fcX12_countsRows (by decide +kernel))
theorem dX12_countsRows_16 : decode cX12_countsRows 16 = .ok (.iinc 1 1, 3) := dq_132 (a := 1) (b := 1) (fd_r fcX12_countsRows (by decide +kernel)) rfl
theorem dX12_countsRows_19 : decode cX12_countsRows 19 = .ok (.goto (-17), 3) := dq_167 (a := 255) (b := 239) (fd_r fcX12_countsRows (by decide +kernel)) rfl
theorem dX12_countsRows_22 : decode cX12_countsRows 22 = .ok (.iconst 0, 1) := dq_3 (fd_r fcX12_countsRows (by decide +kernel))
theorem dX12_countsRows_23 : decode cX12_countsRows 23 = .ok (.istore_n 1, 1) := dq_60 (fd_r fcX12_countsRows (by decide +kernel))
theorem dX12_countsRows_24 : decode cX12_countsRows 24 = .ok (.iload_n 1, 1) := dq_27 (fd_r fcX12_countsRows (by decide +kernel))
theorem dX12_countsRows_25 : decode cX12_countsRows 25 = .ok (.aload_n 0, 1) := dq_42 (fd_r fcX12_countsRows (by decide +kernel))
theorem dX12_countsRows_26 : decode cX12_countsRows 26 = .ok (.getfield 170, 3) := dq_180 (a := 0) (b := 170) (fd_r fcX12_countsRows (by decide +kernel)) rfl
theorem dX12_countsRows_29 : decode cX12_countsRows 29 = .ok (.if_icmp .ge 23, 3) := dq_162 (a := 0) (b := 23) (fd_r fcX12_countsRows (by decide +kernel)) rfl
theorem dX12_countsRows_32 : decode cX12_countsRows 32 = .ok (.aload_n 0, 1) := dq_42 (fd_r fcX12_countsRows (by decide +kernel))
theorem dX12_countsRows_33 : decode cX12_countsRows 33 = .ok (.getfield 218, 3) := dq_180 (a := 0) (b := 218) (fd_r fcX12_countsRows (by decide +kernel)) rfl
theorem dX12_countsRows_36 : decode cX12_countsRows 36 = .ok (.aload_n 0, 1) := dq_42 (fd_r fcX12_countsRows (by decide +kernel))
theorem dX12_countsRows_37 : decode cX12_countsRows 37 = .ok (.iload_n 1, 1) := dq_27 (fd_r fcX12_countsRows (by decide +kernel))
theorem dX12_countsRows_38 : decode cX12_countsRows 38 = .ok (.invokevirtual 484, 3) := dq_182 (a := 1) (b := 228) (fd_r fcX12_countsRows (by decide +kernel)) rfl
theorem dX12_countsRows_41 : decode cX12_countsRows 41 = .ok (.dup2, 1) := dq_92 (fd_r fcX12_countsRows (by decide +kernel))
theorem dX12_countsRows_42 : decode cX12_countsRows 42 = .ok (.iaload, 1) := dq_46 (fd_r fcX12_countsRows (by decide +kernel))
theorem dX12_countsRows_43 : decode cX12_countsRows 43 = .ok (.iconst 1, 1) := dq_4 (fd_r fcX12_countsRows (by decide +kernel))
theorem dX12_countsRows_44 : decode cX12_countsRows 44 = .ok (.iadd, 1) := dq_96 (fd_r fcX12_countsRows (by decide +kernel))
theorem dX12_countsRows_45 : decode cX12_countsRows 45 = .ok (.iastore, 1) := dq_79 (fd_r fcX12_countsRows (by decide +kernel))
theorem dX12_countsRows_46 : decode cX12_countsRows 46 = .ok (.iinc 1 1, 3) := dq_132 (a := 1) (b := 1) (fd_r fcX12_countsRows (by decide +kernel)) rfl
theorem dX12_countsRows_49 : decode cX12_countsRows 49 = .ok (.goto (-25), 3) := dq_167 (a := 255) (b := 231) (fd_r fcX12_countsRows (by decide +kernel)) rfl
theorem dX12_countsRows_52 : decode cX12_countsRows 52 = .ok (.return_, 1) := dq_177 (fd_r fcX12_countsRows (by decide +kernel))
theorem dX12_has_0 : decode cX12_has 0 = .ok (.iload_n 1, 1) := dq_27 (fd_r fcX12_has (by decide +kernel))
theorem dX12_has_1 : decode cX12_has 1 = .ok (.tableswitch 144 0 10 #[59, 69, 79, 84, 100, 107, 114, 121, 128, 133, 138], 59) := by decide +kernel
theorem dX12_has_60 : decode cX12_has 60 = .ok (.aload_n 0, 1) := dq_42 (fd_r fcX12_has (by decide +kernel))
theorem dX12_has_61 : decode cX12_has 61 = .ok (.getfield 54, 3) := dq_180 (a := 0) (b := 54) (fd_r fcX12_has (by decide +kernel)) rfl
theorem dX12_has_64 : decode cX12_has 64 = .ok (.aload_n 0, 1) := dq_42 (fd_r fcX12_has (by decide +kernel))
theorem dX12_has_65 : decode cX12_has 65 = .ok (.getfield 51, 3) := dq_180 (a := 0) (b := 51) (fd_r fcX12_has (by decide +kernel)) rfl
theorem dX12_has_68 : decode cX12_has 68 = .ok (.iaload, 1) := dq_46 (fd_r fcX12_has (by decide +kernel))
theorem dX12_has_69 : decode cX12_has 69 = .ok (.ireturn, 1) := dq_172 (fd_r fcX12_has (by decide +kernel))
theorem dX12_has_70 : decode cX12_has 70 = .ok (.aload_n 0, 1) := dq_42 (fd_r fcX12_has (by decide +kernel))
theorem dX12_has_71 : decode cX12_has 71 = .ok (.getfield 63, 3) := dq_180 (a := 0) (b := 63) (fd_r fcX12_has (by decide +kernel)) rfl
theorem dX12_has_74 : decode cX12_has 74 = .ok (.aload_n 0, 1) := dq_42 (fd_r fcX12_has (by decide +kernel))
theorem dX12_has_75 : decode cX12_has 75 = .ok (.getfield 51, 3) := dq_180 (a := 0) (b := 51) (fd_r fcX12_has (by decide +kernel)) rfl
theorem dX12_has_78 : decode cX12_has 78 = .ok (.iaload, 1) := dq_46 (fd_r fcX12_has (by decide +kernel))
theorem dX12_has_79 : decode cX12_has 79 = .ok (.ireturn, 1) := dq_172 (fd_r fcX12_has (by decide +kernel))
theorem dX12_has_80 : decode cX12_has 80 = .ok (.aload_n 0, 1) := dq_42 (fd_r fcX12_has (by decide +kernel))
theorem dX12_has_81 : decode cX12_has 81 = .ok (.invokevirtual 459, 3) := dq_182 (a := 1) (b := 203) (fd_r fcX12_has (by decide +kernel)) rfl
theorem dX12_has_84 : decode cX12_has 84 = .ok (.ireturn, 1) := dq_172 (fd_r fcX12_has (by decide +kernel))
theorem dX12_has_85 : decode cX12_has 85 = .ok (.aload_n 0, 1) := dq_42 (fd_r fcX12_has (by decide +kernel))
theorem dX12_has_86 : decode cX12_has 86 = .ok (.getfield 146, 3) := dq_180 (a := 0) (b := 146) (fd_r fcX12_has (by decide +kernel)) rfl
theorem dX12_has_89 : decode cX12_has 89 = .ok (.ifCond .eq 10, 3) := dq_153 (a := 0) (b := 10) (fd_r fcX12_has (by decide +kernel)) rfl
theorem dX12_has_92 : decode cX12_has 92 = .ok (.aload_n 0, 1) := dq_42 (fd_r fcX12_has (by decide +kernel))
theorem dX12_has_93 : decode cX12_has 93 = .ok (.getfield 170, 3) := dq_180 (a := 0) (b := 170) (fd_r fcX12_has (by decide +kernel)) rfl
theorem dX12_has_96 : decode cX12_has 96 = .ok (.goto 4, 3) := dq_167 (a := 0) (b := 4) (fd_r fcX12_has (by decide +kernel)) rfl
theorem dX12_has_99 : decode cX12_has 99 = .ok (.iconst 0, 1) := dq_3 (fd_r fcX12_has (by decide +kernel))
theorem dX12_has_100 : decode cX12_has 100 = .ok (.ireturn, 1) := dq_172 (fd_r fcX12_has (by decide +kernel))
theorem dX12_has_101 : decode cX12_has 101 = .ok (.aload_n 0, 1) := dq_42 (fd_r fcX12_has (by decide +kernel))
theorem dX12_has_102 : decode cX12_has 102 = .ok (.getfield 173, 3) := dq_180 (a := 0) (b := 173) (fd_r fcX12_has (by decide +kernel)) rfl
theorem dX12_has_105 : decode cX12_has 105 = .ok (.iconst 0, 1) := dq_3 (fd_r fcX12_has (by decide +kernel))
theorem dX12_has_106 : decode cX12_has 106 = .ok (.iaload, 1) := dq_46 (fd_r fcX12_has (by decide +kernel))
theorem dX12_has_107 : decode cX12_has 107 = .ok (.ireturn, 1) := dq_172 (fd_r fcX12_has (by decide +kernel))
theorem dX12_has_108 : decode cX12_has 108 = .ok (.aload_n 0, 1) := dq_42 (fd_r fcX12_has (by decide +kernel))
theorem dX12_has_109 : decode cX12_has 109 = .ok (.getfield 179, 3) := dq_180 (a := 0) (b := 179) (fd_r fcX12_has (by decide +kernel)) rfl
theorem dX12_has_112 : decode cX12_has 112 = .ok (.iconst 0, 1) := dq_3 (fd_r fcX12_has (by decide +kernel))
theorem dX12_has_113 : decode cX12_has 113 = .ok (.iaload, 1) := dq_46 (fd_r fcX12_has (by decide +kernel))
theorem dX12_has_114 : decode cX12_has 114 = .ok (.ireturn, 1) := dq_172 (fd_r fcX12_has (by decide +kernel))
theorem dX12_has_115 : decode cX12_has 115 = .ok (.aload_n 0, 1) := dq_42 (fd_r fcX12_has (by decide +kernel))
theorem dX12_has_116 : decode cX12_has 116 = .ok (.getfield 182, 3) := dq_180 (a := 0) (b := 182) (fd_r fcX12_has (by decide +kernel)) rfl
theorem dX12_has_119 : decode cX12_has 119 = .ok (.iconst 0, 1) := dq_3 (fd_r fcX12_has (by decide +kernel))
theorem dX12_has_120 : decode cX12_has 120 = .ok (.iaload, 1) := dq_46 (fd_r fcX12_has (by decide +kernel))
theorem dX12_has_121 : decode cX12_has 121 = .ok (.ireturn, 1) := dq_172 (fd_r fcX12_has (by decide +kernel))
theorem dX12_has_122 : decode cX12_has 122 = .ok (.aload_n 0, 1) := dq_42 (fd_r fcX12_has (by decide +kernel))
theorem dX12_has_123 : decode cX12_has 123 = .ok (.getfield 185, 3) := dq_180 (a := 0) (b := 185) (fd_r fcX12_has (by decide +kernel)) rfl
theorem dX12_has_126 : decode cX12_has 126 = .ok (.iconst 0, 1) := dq_3 (fd_r fcX12_has (by decide +kernel))
theorem dX12_has_127 : decode cX12_has 127 = .ok (.iaload, 1) := dq_46 (fd_r fcX12_has (by decide +kernel))
theorem dX12_has_128 : decode cX12_has 128 = .ok (.ireturn, 1) := dq_172 (fd_r fcX12_has (by decide +kernel))
theorem dX12_has_129 : decode cX12_has 129 = .ok (.aload_n 0, 1) := dq_42 (fd_r fcX12_has (by decide +kernel))
theorem dX12_has_130 : decode cX12_has 130 = .ok (.getfield 291, 3) := dq_180 (a := 1) (b := 35) (fd_r fcX12_has (by decide +kernel)) rfl
theorem dX12_has_133 : decode cX12_has 133 = .ok (.ireturn, 1) := dq_172 (fd_r fcX12_has (by decide +kernel))
theorem dX12_has_134 : decode cX12_has 134 = .ok (.aload_n 0, 1) := dq_42 (fd_r fcX12_has (by decide +kernel))
theorem dX12_has_135 : decode cX12_has 135 = .ok (.getfield 194, 3) := dq_180 (a := 0) (b := 194) (fd_r fcX12_has (by decide +kernel)) rfl
theorem dX12_has_138 : decode cX12_has 138 = .ok (.ireturn, 1) := dq_172 (fd_r fcX12_has (by decide +kernel))
theorem dX12_has_139 : decode cX12_has 139 = .ok (.aload_n 0, 1) := dq_42 (fd_r fcX12_has (by decide +kernel))
theorem dX12_has_140 : decode cX12_has 140 = .ok (.getfield 197, 3) := dq_180 (a := 0) (b := 197) (fd_r fcX12_has (by decide +kernel)) rfl
theorem dX12_has_143 : decode cX12_has 143 = .ok (.l2i, 1) := dq_136 (fd_r fcX12_has (by decide +kernel))
theorem dX12_has_144 : decode cX12_has 144 = .ok (.ireturn, 1) := dq_172 (fd_r fcX12_has (by decide +kernel))
theorem dX12_has_145 : decode cX12_has 145 = .ok (.iconst (-1), 1) := dq_2 (fd_r fcX12_has (by decide +kernel))
theorem dX12_has_146 : decode cX12_has 146 = .ok (.ireturn, 1) := dq_172 (fd_r fcX12_has (by decide +kernel))
theorem dX12_lettersOf_0 : decode cX12_lettersOf 0 = .ok (.iconst 0, 1) := dq_3 (fd_r fcX12_lettersOf (by decide +kernel))
theorem dX12_lettersOf_1 : decode cX12_lettersOf 1 = .ok (.istore_n 2, 1) := dq_61 (fd_r fcX12_lettersOf (by decide +kernel))
theorem dX12_lettersOf_2 : decode cX12_lettersOf 2 = .ok (.lload_n 0, 1) := dq_30 (fd_r fcX12_lettersOf (by decide +kernel))
theorem dX12_lettersOf_3 : decode cX12_lettersOf 3 = .ok (.lstore_n 3, 1) := dq_66 (fd_r fcX12_lettersOf (by decide +kernel))
theorem dX12_lettersOf_4 : decode cX12_lettersOf 4 = .ok (.lload_n 3, 1) := dq_33 (fd_r fcX12_lettersOf (by decide +kernel))
theorem dX12_lettersOf_5 : decode cX12_lettersOf 5 = .ok (.lconst 0, 1) := dq_9 (fd_r fcX12_lettersOf (by decide +kernel))
theorem dX12_lettersOf_6 : decode cX12_lettersOf 6 = .ok (.lcmp, 1) := dq_148 (fd_r fcX12_lettersOf (by decide +kernel))
theorem dX12_lettersOf_7 : decode cX12_lettersOf 7 = .ok (.ifCond .le 14, 3) := dq_158 (a := 0) (b := 14) (fd_r fcX12_lettersOf (by decide +kernel)) rfl
theorem dX12_lettersOf_10 : decode cX12_lettersOf 10 = .ok (.iinc 2 1, 3) := dq_132 (a := 2) (b := 1) (fd_r fcX12_lettersOf (by decide +kernel)) rfl
theorem dX12_lettersOf_13 : decode cX12_lettersOf 13 = .ok (.lload_n 3, 1) := dq_33 (fd_r fcX12_lettersOf (by decide +kernel))
theorem dX12_lettersOf_14 : decode cX12_lettersOf 14 = .ok (.bipush 8, 2) := dq_16 (a := 8) (fd_r fcX12_lettersOf (by decide +kernel)) rfl
theorem dX12_lettersOf_16 : decode cX12_lettersOf 16 = .ok (.lshr, 1) := dq_123 (fd_r fcX12_lettersOf (by decide +kernel))
theorem dX12_lettersOf_17 : decode cX12_lettersOf 17 = .ok (.lstore_n 3, 1) := dq_66 (fd_r fcX12_lettersOf (by decide +kernel))
theorem dX12_lettersOf_18 : decode cX12_lettersOf 18 = .ok (.goto (-14), 3) := dq_167 (a := 255) (b := 242) (fd_r fcX12_lettersOf (by decide +kernel)) rfl
theorem dX12_lettersOf_21 : decode cX12_lettersOf 21 = .ok (.iload_n 2, 1) := dq_28 (fd_r fcX12_lettersOf (by decide +kernel))
theorem dX12_lettersOf_22 : decode cX12_lettersOf 22 = .ok (.ireturn, 1) := dq_172 (fd_r fcX12_lettersOf (by decide +kernel))
theorem dX12_letter_0 : decode cX12_letter 0 = .ok (.iload_n 3, 1) := dq_29 (fd_r fcX12_letter (by decide +kernel))
theorem dX12_letter_1 : decode cX12_letter 1 = .ok (.iconst 0, 1) := dq_3 (fd_r fcX12_letter (by decide +kernel))
theorem dX12_letter_2 : decode cX12_letter 2 = .ok (.iconst 5, 1) := dq_8 (fd_r fcX12_letter (by decide +kernel))
theorem dX12_letter_3 : decode cX12_letter 3 = .ok (.invokestatic 362, 3) := dq_184 (a := 1) (b := 106) (fd_r fcX12_letter (by decide +kernel)) rfl
theorem dX12_letter_6 : decode cX12_letter 6 = .ok (.ifCond .eq 47, 3) := dq_153 (a := 0) (b := 47) (fd_r fcX12_letter (by decide +kernel)) rfl
theorem dX12_letter_9 : decode cX12_letter 9 = .ok (.iload_n 1, 1) := dq_27 (fd_r fcX12_letter (by decide +kernel))
theorem dX12_letter_10 : decode cX12_letter 10 = .ok (.iconst 0, 1) := dq_3 (fd_r fcX12_letter (by decide +kernel))
theorem dX12_letter_11 : decode cX12_letter 11 = .ok (.iconst 1, 1) := dq_4 (fd_r fcX12_letter (by decide +kernel))
theorem dX12_letter_12 : decode cX12_letter 12 = .ok (.invokestatic 362, 3) := dq_184 (a := 1) (b := 106) (fd_r fcX12_letter (by decide +kernel)) rfl
theorem dX12_letter_15 : decode cX12_letter 15 = .ok (.ifCond .eq 38, 3) := dq_153 (a := 0) (b := 38) (fd_r fcX12_letter (by decide +kernel)) rfl
theorem dX12_letter_18 : decode cX12_letter 18 = .ok (.iload_n 2, 1) := dq_28 (fd_r fcX12_letter (by decide +kernel))
theorem dX12_letter_19 : decode cX12_letter 19 = .ok (.iconst 0, 1) := dq_3 (fd_r fcX12_letter (by decide +kernel))
theorem dX12_letter_20 : decode cX12_letter 20 = .ok (.iload_n 1, 1) := dq_27 (fd_r fcX12_letter (by decide +kernel))
theorem dX12_letter_21 : decode cX12_letter 21 = .ok (.ifCond .ne 15, 3) := dq_154 (a := 0) (b := 15) (fd_r fcX12_letter (by decide +kernel)) rfl
theorem dX12_letter_24 : decode cX12_letter 24 = .ok (.aload_n 0, 1) := dq_42 (fd_r fcX12_letter (by decide +kernel))
theorem dX12_letter_25 : decode cX12_letter 25 = .ok (.getfield 54, 3) := dq_180 (a := 0) (b := 54) (fd_r fcX12_letter (by decide +kernel)) rfl
theorem dX12_letter_28 : decode cX12_letter 28 = .ok (.aload_n 0, 1) := dq_42 (fd_r fcX12_letter (by decide +kernel))
theorem dX12_letter_29 : decode cX12_letter 29 = .ok (.getfield 51, 3) := dq_180 (a := 0) (b := 51) (fd_r fcX12_letter (by decide +kernel)) rfl
theorem dX12_letter_32 : decode cX12_letter 32 = .ok (.iaload, 1) := dq_46 (fd_r fcX12_letter (by decide +kernel))
theorem dX12_letter_33 : decode cX12_letter 33 = .ok (.goto 12, 3) := dq_167 (a := 0) (b := 12) (fd_r fcX12_letter (by decide +kernel)) rfl
theorem dX12_letter_36 : decode cX12_letter 36 = .ok (.aload_n 0, 1) := dq_42 (fd_r fcX12_letter (by decide +kernel))
theorem dX12_letter_37 : decode cX12_letter 37 = .ok (.getfield 63, 3) := dq_180 (a := 0) (b := 63) (fd_r fcX12_letter (by decide +kernel)) rfl
theorem dX12_letter_40 : decode cX12_letter 40 = .ok (.aload_n 0, 1) := dq_42 (fd_r fcX12_letter (by decide +kernel))
theorem dX12_letter_41 : decode cX12_letter 41 = .ok (.getfield 51, 3) := dq_180 (a := 0) (b := 51) (fd_r fcX12_letter (by decide +kernel)) rfl
theorem dX12_letter_44 : decode cX12_letter 44 = .ok (.iaload, 1) := dq_46 (fd_r fcX12_letter (by decide +kernel))
theorem dX12_letter_45 : decode cX12_letter 45 = .ok (.iconst 1, 1) := dq_4 (fd_r fcX12_letter (by decide +kernel))
theorem dX12_letter_46 : decode cX12_letter 46 = .ok (.isub, 1) := dq_100 (fd_r fcX12_letter (by decide +kernel))
theorem dX12_letter_47 : decode cX12_letter 47 = .ok (.invokestatic 362, 3) := dq_184 (a := 1) (b := 106) (fd_r fcX12_letter (by decide +kernel)) rfl
theorem dX12_letter_50 : decode cX12_letter 50 = .ok (.ifCond .ne 5, 3) := dq_154 (a := 0) (b := 5) (fd_r fcX12_letter (by decide +kernel)) rfl
theorem dX12_letter_53 : decode cX12_letter 53 = .ok (.iconst (-1), 1) := dq_2 (fd_r fcX12_letter (by decide +kernel))
theorem dX12_letter_54 : decode cX12_letter 54 = .ok (.ireturn, 1) := dq_172 (fd_r fcX12_letter (by decide +kernel))
theorem dX12_letter_55 : decode cX12_letter 55 = .ok (.iload_n 1, 1) := dq_27 (fd_r fcX12_letter (by decide +kernel))
theorem dX12_letter_56 : decode cX12_letter 56 = .ok (.ifCond .ne 19, 3) := dq_154 (a := 0) (b := 19) (fd_r fcX12_letter (by decide +kernel)) rfl
theorem dX12_letter_59 : decode cX12_letter 59 = .ok (.aload_n 0, 1) := dq_42 (fd_r fcX12_letter (by decide +kernel))
theorem dX12_letter_60 : decode cX12_letter 60 = .ok (.getfield 114, 3) := dq_180 (a := 0) (b := 114) (fd_r fcX12_letter (by decide +kernel)) rfl
theorem dX12_letter_63 : decode cX12_letter 63 = .ok (.iconst 4, 1) := dq_7 (fd_r fcX12_letter (by decide +kernel))
theorem dX12_letter_64 : decode cX12_letter 64 = .ok (.aload_n 0, 1) := dq_42 (fd_r fcX12_letter (by decide +kernel))
theorem dX12_letter_65 : decode cX12_letter 65 = .ok (.getfield 51, 3) := dq_180 (a := 0) (b := 51) (fd_r fcX12_letter (by decide +kernel)) rfl
theorem dX12_letter_68 : decode cX12_letter 68 = .ok (.imul, 1) := dq_104 (fd_r fcX12_letter (by decide +kernel))
theorem dX12_letter_69 : decode cX12_letter 69 = .ok (.iload_n 2, 1) := dq_28 (fd_r fcX12_letter (by decide +kernel))
theorem dX12_letter_70 : decode cX12_letter 70 = .ok (.iadd, 1) := dq_96 (fd_r fcX12_letter (by decide +kernel))
theorem dX12_letter_71 : decode cX12_letter 71 = .ok (.laload, 1) := dq_47 (fd_r fcX12_letter (by decide +kernel))
theorem dX12_letter_72 : decode cX12_letter 72 = .ok (.goto 17, 3) := dq_167 (a := 0) (b := 17) (fd_r fcX12_letter (by decide +kernel)) rfl
theorem dX12_letter_75 : decode cX12_letter 75 = .ok (.aload_n 0, 1) := dq_42 (fd_r fcX12_letter (by decide +kernel))
theorem dX12_letter_76 : decode cX12_letter 76 = .ok (.getfield 118, 3) := dq_180 (a := 0) (b := 118) (fd_r fcX12_letter (by decide +kernel)) rfl
theorem dX12_letter_79 : decode cX12_letter 79 = .ok (.bipush 24, 2) := dq_16 (a := 24) (fd_r fcX12_letter (by decide +kernel)) rfl
theorem dX12_letter_81 : decode cX12_letter 81 = .ok (.aload_n 0, 1) := dq_42 (fd_r fcX12_letter (by decide +kernel))
theorem dX12_letter_82 : decode cX12_letter 82 = .ok (.getfield 51, 3) := dq_180 (a := 0) (b := 51) (fd_r fcX12_letter (by decide +kernel)) rfl
theorem dX12_letter_85 : decode cX12_letter 85 = .ok (.imul, 1) := dq_104 (fd_r fcX12_letter (by decide +kernel))
theorem dX12_letter_86 : decode cX12_letter 86 = .ok (.iload_n 2, 1) := dq_28 (fd_r fcX12_letter (by decide +kernel))
theorem dX12_letter_87 : decode cX12_letter 87 = .ok (.iadd, 1) := dq_96 (fd_r fcX12_letter (by decide +kernel))
theorem dX12_letter_88 : decode cX12_letter 88 = .ok (.laload, 1) := dq_47 (fd_r fcX12_letter (by decide +kernel))
theorem dX12_letter_89 : decode cX12_letter 89 = .ok (.lstore 4, 2) := dq_55 (a := 4) (fd_r fcX12_letter (by decide +kernel))
theorem dX12_letter_91 : decode cX12_letter 91 = .ok (.lload 4, 2) := dq_22 (a := 4) (fd_r fcX12_letter (by decide +kernel))
theorem dX12_letter_93 : decode cX12_letter 93 = .ok (.invokestatic 487, 3) := dq_184 (a := 1) (b := 231) (fd_r fcX12_letter (by decide +kernel)) rfl
theorem dX12_letter_96 : decode cX12_letter 96 = .ok (.istore 6, 2) := dq_54 (a := 6) (fd_r fcX12_letter (by decide +kernel))
theorem dX12_letter_98 : decode cX12_letter 98 = .ok (.iload_n 3, 1) := dq_29 (fd_r fcX12_letter (by decide +kernel))
theorem dX12_letter_99 : decode cX12_letter 99 = .ok (.iload 6, 2) := dq_21 (a := 6) (fd_r fcX12_letter (by decide +kernel))
theorem dX12_letter_101 : decode cX12_letter 101 = .ok (.if_icmp .lt 7, 3) := dq_161 (a := 0) (b := 7) (fd_r fcX12_letter (by decide +kernel)) rfl
theorem dX12_letter_104 : decode cX12_letter 104 = .ok (.iconst 0, 1) := dq_3 (fd_r fcX12_letter (by decide +kernel))
theorem dX12_letter_105 : decode cX12_letter 105 = .ok (.goto 25, 3) := dq_167 (a := 0) (b := 25) (fd_r fcX12_letter (by decide +kernel)) rfl
theorem dX12_letter_108 : decode cX12_letter 108 = .ok (.lload 4, 2) := dq_22 (a := 4) (fd_r fcX12_letter (by decide +kernel))
theorem dX12_letter_110 : decode cX12_letter 110 = .ok (.bipush 8, 2) := dq_16 (a := 8) (fd_r fcX12_letter (by decide +kernel)) rfl
theorem dX12_letter_112 : decode cX12_letter 112 = .ok (.iload 6, 2) := dq_21 (a := 6) (fd_r fcX12_letter (by decide +kernel))
theorem dX12_letter_114 : decode cX12_letter 114 = .ok (.iconst 1, 1) := dq_4 (fd_r fcX12_letter (by decide +kernel))
theorem dX12_letter_115 : decode cX12_letter 115 = .ok (.isub, 1) := dq_100 (fd_r fcX12_letter (by decide +kernel))
theorem dX12_letter_116 : decode cX12_letter 116 = .ok (.iload_n 3, 1) := dq_29 (fd_r fcX12_letter (by decide +kernel))
theorem dX12_letter_117 : decode cX12_letter 117 = .ok (.isub, 1) := dq_100 (fd_r fcX12_letter (by decide +kernel))
theorem dX12_letter_118 : decode cX12_letter 118 = .ok (.imul, 1) := dq_104 (fd_r fcX12_letter (by decide +kernel))
theorem dX12_letter_119 : decode cX12_letter 119 = .ok (.lshr, 1) := dq_123 (fd_r fcX12_letter (by decide +kernel))
theorem dX12_letter_120 : decode cX12_letter 120 = .ok (.ldc2_w 490, 3) := dq_20 (a := 1) (b := 234) (fd_r fcX12_letter (by decide +kernel)) rfl
theorem dX12_letter_123 : decode cX12_letter 123 = .ok (.land, 1) := dq_127 (fd_r fcX12_letter (by decide +kernel))
theorem dX12_letter_124 : decode cX12_letter 124 = .ok (.l2i, 1) := dq_136 (fd_r fcX12_letter (by decide +kernel))
theorem dX12_letter_125 : decode cX12_letter 125 = .ok (.bipush 97, 2) := dq_16 (a := 97) (fd_r fcX12_letter (by decide +kernel)) rfl
theorem dX12_letter_127 : decode cX12_letter 127 = .ok (.isub, 1) := dq_100 (fd_r fcX12_letter (by decide +kernel))
theorem dX12_letter_128 : decode cX12_letter 128 = .ok (.iconst 1, 1) := dq_4 (fd_r fcX12_letter (by decide +kernel))
theorem dX12_letter_129 : decode cX12_letter 129 = .ok (.iadd, 1) := dq_96 (fd_r fcX12_letter (by decide +kernel))
theorem dX12_letter_130 : decode cX12_letter 130 = .ok (.ireturn, 1) := dq_172 (fd_r fcX12_letter (by decide +kernel))
theorem dX12_values_0 : decode cX12_values 0 = .ok (.aload_n 0, 1) := dq_42 (fd_r fcX12_values (by decide +kernel))
theorem dX12_values_1 : decode cX12_values 1 = .ok (.getfield 146, 3) := dq_180 (a := 0) (b := 146) (fd_r fcX12_values (by decide +kernel)) rfl
theorem dX12_values_4 : decode cX12_values 4 = .ok (.ifCond .eq 22, 3) := dq_153 (a := 0) (b := 22) (fd_r fcX12_values (by decide +kernel)) rfl
theorem dX12_values_7 : decode cX12_values 7 = .ok (.iload_n 1, 1) := dq_27 (fd_r fcX12_values (by decide +kernel))
theorem dX12_values_8 : decode cX12_values 8 = .ok (.iconst (-1), 1) := dq_2 (fd_r fcX12_values (by decide +kernel))
theorem dX12_values_9 : decode cX12_values 9 = .ok (.aload_n 0, 1) := dq_42 (fd_r fcX12_values (by decide +kernel))
theorem dX12_values_10 : decode cX12_values 10 = .ok (.getfield 54, 3) := dq_180 (a := 0) (b := 54) (fd_r fcX12_values (by decide +kernel)) rfl
theorem dX12_values_13 : decode cX12_values 13 = .ok (.aload_n 0, 1) := dq_42 (fd_r fcX12_values (by decide +kernel))
theorem dX12_values_14 : decode cX12_values 14 = .ok (.getfield 51, 3) := dq_180 (a := 0) (b := 51) (fd_r fcX12_values (by decide +kernel)) rfl
theorem dX12_values_17 : decode cX12_values 17 = .ok (.iaload, 1) := dq_46 (fd_r fcX12_values (by decide +kernel))
theorem dX12_values_18 : decode cX12_values 18 = .ok (.iconst 1, 1) := dq_4 (fd_r fcX12_values (by decide +kernel))
theorem dX12_values_19 : decode cX12_values 19 = .ok (.isub, 1) := dq_100 (fd_r fcX12_values (by decide +kernel))
theorem dX12_values_20 : decode cX12_values 20 = .ok (.invokestatic 362, 3) := dq_184 (a := 1) (b := 106) (fd_r fcX12_values (by decide +kernel)) rfl
theorem dX12_values_23 : decode cX12_values 23 = .ok (.ifCond .ne 5, 3) := dq_154 (a := 0) (b := 5) (fd_r fcX12_values (by decide +kernel)) rfl
theorem dX12_values_26 : decode cX12_values 26 = .ok (.iconst (-1), 1) := dq_2 (fd_r fcX12_values (by decide +kernel))
theorem dX12_values_27 : decode cX12_values 27 = .ok (.ireturn, 1) := dq_172 (fd_r fcX12_values (by decide +kernel))
theorem dX12_values_28 : decode cX12_values 28 = .ok (.iload_n 1, 1) := dq_27 (fd_r fcX12_values (by decide +kernel))
theorem dX12_values_29 : decode cX12_values 29 = .ok (.iconst (-1), 1) := dq_2 (fd_r fcX12_values (by decide +kernel))
theorem dX12_values_30 : decode cX12_values 30 = .ok (.if_icmp .ne 8, 3) := dq_160 (a := 0) (b := 8) (fd_r fcX12_values (by decide +kernel)) rfl
theorem dX12_values_33 : decode cX12_values 33 = .ok (.bipush 20, 2) := dq_16 (a := 20) (fd_r fcX12_values (by decide +kernel)) rfl
theorem dX12_values_35 : decode cX12_values 35 = .ok (.goto 16, 3) := dq_167 (a := 0) (b := 16) (fd_r fcX12_values (by decide +kernel)) rfl
theorem dX12_values_38 : decode cX12_values 38 = .ok (.aload_n 0, 1) := dq_42 (fd_r fcX12_values (by decide +kernel))
theorem dX12_values_39 : decode cX12_values 39 = .ok (.getfield 57, 3) := dq_180 (a := 0) (b := 57) (fd_r fcX12_values (by decide +kernel)) rfl
theorem dX12_values_42 : decode cX12_values 42 = .ok (.iconst 4, 1) := dq_7 (fd_r fcX12_values (by decide +kernel))
theorem dX12_values_43 : decode cX12_values 43 = .ok (.aload_n 0, 1) := dq_42 (fd_r fcX12_values (by decide +kernel))
theorem dX12_values_44 : decode cX12_values 44 = .ok (.getfield 51, 3) := dq_180 (a := 0) (b := 51) (fd_r fcX12_values (by decide +kernel)) rfl
theorem dX12_values_47 : decode cX12_values 47 = .ok (.imul, 1) := dq_104 (fd_r fcX12_values (by decide +kernel))
theorem dX12_values_48 : decode cX12_values 48 = .ok (.iload_n 1, 1) := dq_27 (fd_r fcX12_values (by decide +kernel))
theorem dX12_values_49 : decode cX12_values 49 = .ok (.iadd, 1) := dq_96 (fd_r fcX12_values (by decide +kernel))
theorem dX12_values_50 : decode cX12_values 50 = .ok (.iaload, 1) := dq_46 (fd_r fcX12_values (by decide +kernel))
theorem dX12_values_51 : decode cX12_values 51 = .ok (.ireturn, 1) := dq_172 (fd_r fcX12_values (by decide +kernel))
theorem dX12_isPlace_0 : decode cX12_isPlace 0 = .ok (.aload_n 0, 1) := dq_42 (fd_r fcX12_isPlace (by decide +kernel))
theorem dX12_isPlace_1 : decode cX12_isPlace 1 = .ok (.getfield 146, 3) := dq_180 (a := 0) (b := 146) (fd_r fcX12_isPlace (by decide +kernel)) rfl
theorem dX12_isPlace_4 : decode cX12_isPlace 4 = .ok (.ifCond .eq 23, 3) := dq_153 (a := 0) (b := 23) (fd_r fcX12_isPlace (by decide +kernel)) rfl
theorem dX12_isPlace_7 : decode cX12_isPlace 7 = .ok (.iload_n 1, 1) := dq_27 (fd_r fcX12_isPlace (by decide +kernel))
theorem dX12_isPlace_8 : decode cX12_isPlace 8 = .ok (.iconst 0, 1) := dq_3 (fd_r fcX12_isPlace (by decide +kernel))
theorem dX12_isPlace_9 : decode cX12_isPlace 9 = .ok (.aload_n 0, 1) := dq_42 (fd_r fcX12_isPlace (by decide +kernel))
theorem dX12_isPlace_10 : decode cX12_isPlace 10 = .ok (.getfield 173, 3) := dq_180 (a := 0) (b := 173) (fd_r fcX12_isPlace (by decide +kernel)) rfl
theorem dX12_isPlace_13 : decode cX12_isPlace 13 = .ok (.iconst 0, 1) := dq_3 (fd_r fcX12_isPlace (by decide +kernel))
theorem dX12_isPlace_14 : decode cX12_isPlace 14 = .ok (.iaload, 1) := dq_46 (fd_r fcX12_isPlace (by decide +kernel))
theorem dX12_isPlace_15 : decode cX12_isPlace 15 = .ok (.iconst 1, 1) := dq_4 (fd_r fcX12_isPlace (by decide +kernel))
theorem dX12_isPlace_16 : decode cX12_isPlace 16 = .ok (.isub, 1) := dq_100 (fd_r fcX12_isPlace (by decide +kernel))
theorem dX12_isPlace_17 : decode cX12_isPlace 17 = .ok (.invokestatic 362, 3) := dq_184 (a := 1) (b := 106) (fd_r fcX12_isPlace (by decide +kernel)) rfl
theorem dX12_isPlace_20 : decode cX12_isPlace 20 = .ok (.ifCond .eq 7, 3) := dq_153 (a := 0) (b := 7) (fd_r fcX12_isPlace (by decide +kernel)) rfl
theorem dX12_isPlace_23 : decode cX12_isPlace 23 = .ok (.iconst 1, 1) := dq_4 (fd_r fcX12_isPlace (by decide +kernel))
theorem dX12_isPlace_24 : decode cX12_isPlace 24 = .ok (.goto 4, 3) := dq_167 (a := 0) (b := 4) (fd_r fcX12_isPlace (by decide +kernel)) rfl
theorem dX12_isPlace_27 : decode cX12_isPlace 27 = .ok (.iconst 0, 1) := dq_3 (fd_r fcX12_isPlace (by decide +kernel))
theorem dX12_isPlace_28 : decode cX12_isPlace 28 = .ok (.ireturn, 1) := dq_172 (fd_r fcX12_isPlace (by decide +kernel))
theorem dX12_fittingRows_0 : decode cX12_fittingRows 0 = .ok (.iconst 0, 1) := dq_3 (fd_r fcX12_fittingRows (by decide +kernel))
theorem dX12_fittingRows_1 : decode cX12_fittingRows 1 = .ok (.istore_n 2, 1) := dq_61 (fd_r fcX12_fittingRows (by decide +kernel))
theorem dX12_fittingRows_2 : decode cX12_fittingRows 2 = .ok (.iconst 0, 1) := dq_3 (fd_r fcX12_fittingRows (by decide +kernel))
theorem dX12_fittingRows_3 : decode cX12_fittingRows 3 = .ok (.istore_n 3, 1) := dq_62 (fd_r fcX12_fittingRows (by decide +kernel))
theorem dX12_fittingRows_4 : decode cX12_fittingRows 4 = .ok (.iload_n 3, 1) := dq_29 (fd_r fcX12_fittingRows (by decide +kernel))
theorem dX12_fittingRows_5 : decode cX12_fittingRows 5 = .ok (.sipush 4096, 3) := dq_17 (a := 16) (b := 0) (fd_r fcX12_fittingRows (by decide +kernel)) rfl
theorem dX12_fittingRows_8 : decode cX12_fittingRows 8 = .ok (.if_icmp .ge 31, 3) := dq_162 (a := 0) (b := 31) (fd_r fcX12_fittingRows (by decide +kernel)) rfl
theorem dX12_fittingRows_11 : decode cX12_fittingRows 11 = .ok (.iload_n 2, 1) := dq_28 (fd_r fcX12_fittingRows (by decide +kernel))
theorem dX12_fittingRows_12 : decode cX12_fittingRows 12 = .ok (.iload_n 3, 1) := dq_29 (fd_r fcX12_fittingRows (by decide +kernel))
theorem dX12_fittingRows_13 : decode cX12_fittingRows 13 = .ok (.iload_n 1, 1) := dq_27 (fd_r fcX12_fittingRows (by decide +kernel))
theorem dX12_fittingRows_14 : decode cX12_fittingRows 14 = .ok (.ishr, 1) := dq_122 (fd_r fcX12_fittingRows (by decide +kernel))
theorem dX12_fittingRows_15 : decode cX12_fittingRows 15 = .ok (.iconst 1, 1) := dq_4 (fd_r fcX12_fittingRows (by decide +kernel))
theorem dX12_fittingRows_16 : decode cX12_fittingRows 16 = .ok (.iand, 1) := dq_126 (fd_r fcX12_fittingRows (by decide +kernel))
theorem dX12_fittingRows_17 : decode cX12_fittingRows 17 = .ok (.iconst 1, 1) := dq_4 (fd_r fcX12_fittingRows (by decide +kernel))
theorem dX12_fittingRows_18 : decode cX12_fittingRows 18 = .ok (.if_icmp .ne 12, 3) := dq_160 (a := 0) (b := 12) (fd_r fcX12_fittingRows (by decide +kernel)) rfl
theorem dX12_fittingRows_21 : decode cX12_fittingRows 21 = .ok (.aload_n 0, 1) := dq_42 (fd_r fcX12_fittingRows (by decide +kernel))
theorem dX12_fittingRows_22 : decode cX12_fittingRows 22 = .ok (.getfield 218, 3) := dq_180 (a := 0) (b := 218) (fd_r fcX12_fittingRows (by decide +kernel)) rfl
theorem dX12_fittingRows_25 : decode cX12_fittingRows 25 = .ok (.iload_n 3, 1) := dq_29 (fd_r fcX12_fittingRows (by decide +kernel))
theorem dX12_fittingRows_26 : decode cX12_fittingRows 26 = .ok (.iaload, 1) := dq_46 (fd_r fcX12_fittingRows (by decide +kernel))
theorem dX12_fittingRows_27 : decode cX12_fittingRows 27 = .ok (.goto 4, 3) := dq_167 (a := 0) (b := 4) (fd_r fcX12_fittingRows (by decide +kernel)) rfl
theorem dX12_fittingRows_30 : decode cX12_fittingRows 30 = .ok (.iconst 0, 1) := dq_3 (fd_r fcX12_fittingRows (by decide +kernel))
theorem dX12_fittingRows_31 : decode cX12_fittingRows 31 = .ok (.iadd, 1) := dq_96 (fd_r fcX12_fittingRows (by decide +kernel))
theorem dX12_fittingRows_32 : decode cX12_fittingRows 32 = .ok (.istore_n 2, 1) := dq_61 (fd_r fcX12_fittingRows (by decide +kernel))
theorem dX12_fittingRows_33 : decode cX12_fittingRows 33 = .ok (.iinc 3 1, 3) := dq_132 (a := 3) (b := 1) (fd_r fcX12_fittingRows (by decide +kernel)) rfl
theorem dX12_fittingRows_36 : decode cX12_fittingRows 36 = .ok (.goto (-32), 3) := dq_167 (a := 255) (b := 224) (fd_r fcX12_fittingRows (by decide +kernel)) rfl
theorem dX12_fittingRows_39 : decode cX12_fittingRows 39 = .ok (.iload_n 2, 1) := dq_28 (fd_r fcX12_fittingRows (by decide +kernel))
theorem dX12_fittingRows_40 : decode cX12_fittingRows 40 = .ok (.ireturn, 1) := dq_172 (fd_r fcX12_fittingRows (by decide +kernel))
theorem dX12_isUseful_0 : decode cX12_isUseful 0 = .ok (.aload_n 0, 1) := dq_42 (fd_r fcX12_isUseful (by decide +kernel))
theorem dX12_isUseful_1 : decode cX12_isUseful 1 = .ok (.getfield 212, 3) := dq_180 (a := 0) (b := 212) (fd_r fcX12_isUseful (by decide +kernel)) rfl
theorem dX12_isUseful_4 : decode cX12_isUseful 4 = .ok (.iconst 1, 1) := dq_4 (fd_r fcX12_isUseful (by decide +kernel))
theorem dX12_isUseful_5 : decode cX12_isUseful 5 = .ok (.iload_n 1, 1) := dq_27 (fd_r fcX12_isUseful (by decide +kernel))
theorem dX12_isUseful_6 : decode cX12_isUseful 6 = .ok (.ishl, 1) := dq_120 (fd_r fcX12_isUseful (by decide +kernel))
theorem dX12_isUseful_7 : decode cX12_isUseful 7 = .ok (.iconst 1, 1) := dq_4 (fd_r fcX12_isUseful (by decide +kernel))
theorem dX12_isUseful_8 : decode cX12_isUseful 8 = .ok (.isub, 1) := dq_100 (fd_r fcX12_isUseful (by decide +kernel))
theorem dX12_isUseful_9 : decode cX12_isUseful 9 = .ok (.iand, 1) := dq_126 (fd_r fcX12_isUseful (by decide +kernel))
theorem dX12_isUseful_10 : decode cX12_isUseful 10 = .ok (.istore_n 2, 1) := dq_61 (fd_r fcX12_isUseful (by decide +kernel))
theorem dX12_isUseful_11 : decode cX12_isUseful 11 = .ok (.iconst 0, 1) := dq_3 (fd_r fcX12_isUseful (by decide +kernel))
theorem dX12_isUseful_12 : decode cX12_isUseful 12 = .ok (.istore_n 3, 1) := dq_62 (fd_r fcX12_isUseful (by decide +kernel))
theorem dX12_isUseful_13 : decode cX12_isUseful 13 = .ok (.iload_n 3, 1) := dq_29 (fd_r fcX12_isUseful (by decide +kernel))
theorem dX12_isUseful_14 : decode cX12_isUseful 14 = .ok (.sipush 4096, 3) := dq_17 (a := 16) (b := 0) (fd_r fcX12_isUseful (by decide +kernel)) rfl
theorem dX12_isUseful_17 : decode cX12_isUseful 17 = .ok (.if_icmp .ge 35, 3) := dq_162 (a := 0) (b := 35) (fd_r fcX12_isUseful (by decide +kernel)) rfl
theorem dX12_isUseful_20 : decode cX12_isUseful 20 = .ok (.aload_n 0, 1) := dq_42 (fd_r fcX12_isUseful (by decide +kernel))
theorem dX12_isUseful_21 : decode cX12_isUseful 21 = .ok (.getfield 218, 3) := dq_180 (a := 0) (b := 218) (fd_r fcX12_isUseful (by decide +kernel)) rfl
theorem dX12_isUseful_24 : decode cX12_isUseful 24 = .ok (.iload_n 3, 1) := dq_29 (fd_r fcX12_isUseful (by decide +kernel))
theorem dX12_isUseful_25 : decode cX12_isUseful 25 = .ok (.iaload, 1) := dq_46 (fd_r fcX12_isUseful (by decide +kernel))
theorem dX12_isUseful_26 : decode cX12_isUseful 26 = .ok (.ifCond .le 20, 3) := dq_158 (a := 0) (b := 20) (fd_r fcX12_isUseful (by decide +kernel)) rfl
theorem dX12_isUseful_29 : decode cX12_isUseful 29 = .ok (.iload_n 3, 1) := dq_29 (fd_r fcX12_isUseful (by decide +kernel))
theorem dX12_isUseful_30 : decode cX12_isUseful 30 = .ok (.iload_n 1, 1) := dq_27 (fd_r fcX12_isUseful (by decide +kernel))
theorem dX12_isUseful_31 : decode cX12_isUseful 31 = .ok (.ishr, 1) := dq_122 (fd_r fcX12_isUseful (by decide +kernel))
theorem dX12_isUseful_32 : decode cX12_isUseful 32 = .ok (.iconst 1, 1) := dq_4 (fd_r fcX12_isUseful (by decide +kernel))
theorem dX12_isUseful_33 : decode cX12_isUseful 33 = .ok (.iand, 1) := dq_126 (fd_r fcX12_isUseful (by decide +kernel))
theorem dX12_isUseful_34 : decode cX12_isUseful 34 = .ok (.iconst 1, 1) := dq_4 (fd_r fcX12_isUseful (by decide +kernel))
theorem dX12_isUseful_35 : decode cX12_isUseful 35 = .ok (.if_icmp .ne 11, 3) := dq_160 (a := 0) (b := 11) (fd_r fcX12_isUseful (by decide +kernel)) rfl
theorem dX12_isUseful_38 : decode cX12_isUseful 38 = .ok (.iload_n 3, 1) := dq_29 (fd_r fcX12_isUseful (by decide +kernel))
theorem dX12_isUseful_39 : decode cX12_isUseful 39 = .ok (.iload_n 2, 1) := dq_28 (fd_r fcX12_isUseful (by decide +kernel))
theorem dX12_isUseful_40 : decode cX12_isUseful 40 = .ok (.iand, 1) := dq_126 (fd_r fcX12_isUseful (by decide +kernel))
theorem dX12_isUseful_41 : decode cX12_isUseful 41 = .ok (.ifCond .ne 5, 3) := dq_154 (a := 0) (b := 5) (fd_r fcX12_isUseful (by decide +kernel)) rfl
theorem dX12_isUseful_44 : decode cX12_isUseful 44 = .ok (.iconst 1, 1) := dq_4 (fd_r fcX12_isUseful (by decide +kernel))
theorem dX12_isUseful_45 : decode cX12_isUseful 45 = .ok (.ireturn, 1) := dq_172 (fd_r fcX12_isUseful (by decide +kernel))
theorem dX12_isUseful_46 : decode cX12_isUseful 46 = .ok (.iinc 3 1, 3) := dq_132 (a := 3) (b := 1) (fd_r fcX12_isUseful (by decide +kernel)) rfl
theorem dX12_isUseful_49 : decode cX12_isUseful 49 = .ok (.goto (-36), 3) := dq_167 (a := 255) (b := 220) (fd_r fcX12_isUseful (by decide +kernel)) rfl
theorem dX12_isUseful_52 : decode cX12_isUseful 52 = .ok (.iconst 0, 1) := dq_3 (fd_r fcX12_isUseful (by decide +kernel))
theorem dX12_isUseful_53 : decode cX12_isUseful 53 = .ok (.ireturn, 1) := dq_172 (fd_r fcX12_isUseful (by decide +kernel))
theorem dX12_takenRows_0 : decode cX12_takenRows 0 = .ok (.aload_n 0, 1) := dq_42 (fd_r fcX12_takenRows (by decide +kernel))
theorem dX12_takenRows_1 : decode cX12_takenRows 1 = .ok (.aload_n 0, 1) := dq_42 (fd_r fcX12_takenRows (by decide +kernel))
theorem dX12_takenRows_2 : decode cX12_takenRows 2 = .ok (.getfield 179, 3) := dq_180 (a := 0) (b := 179) (fd_r fcX12_takenRows (by decide +kernel)) rfl
theorem dX12_takenRows_5 : decode cX12_takenRows 5 = .ok (.iconst 0, 1) := dq_3 (fd_r fcX12_takenRows (by decide +kernel))
theorem dX12_takenRows_6 : decode cX12_takenRows 6 = .ok (.iaload, 1) := dq_46 (fd_r fcX12_takenRows (by decide +kernel))
theorem dX12_takenRows_7 : decode cX12_takenRows 7 = .ok (.invokevirtual 492, 3) := dq_182 (a := 1) (b := 236) (fd_r fcX12_takenRows (by decide +kernel)) rfl
theorem dX12_takenRows_10 : decode cX12_takenRows 10 = .ok (.istore_n 2, 1) := dq_61 (fd_r fcX12_takenRows (by decide +kernel))
theorem dX12_takenRows_11 : decode cX12_takenRows 11 = .ok (.iconst 0, 1) := dq_3 (fd_r fcX12_takenRows (by decide +kernel))
theorem dX12_takenRows_12 : decode cX12_takenRows 12 = .ok (.istore_n 3, 1) := dq_62 (fd_r fcX12_takenRows (by decide +kernel))
theorem dX12_takenRows_13 : decode cX12_takenRows 13 = .ok (.iconst 0, 1) := dq_3 (fd_r fcX12_takenRows (by decide +kernel))
theorem dX12_takenRows_14 : decode cX12_takenRows 14 = .ok (.istore 4, 2) := dq_54 (a := 4) (fd_r fcX12_takenRows (by decide +kernel))
theorem dX12_takenRows_16 : decode cX12_takenRows 16 = .ok (.iload 4, 2) := dq_21 (a := 4) (fd_r fcX12_takenRows (by decide +kernel))
theorem dX12_takenRows_18 : decode cX12_takenRows 18 = .ok (.sipush 4096, 3) := dq_17 (a := 16) (b := 0) (fd_r fcX12_takenRows (by decide +kernel)) rfl
theorem dX12_takenRows_21 : decode cX12_takenRows 21 = .ok (.if_icmp .ge 44, 3) := dq_162 (a := 0) (b := 44) (fd_r fcX12_takenRows (by decide +kernel)) rfl
theorem dX12_takenRows_24 : decode cX12_takenRows 24 = .ok (.iload_n 3, 1) := dq_29 (fd_r fcX12_takenRows (by decide +kernel))
theorem dX12_takenRows_25 : decode cX12_takenRows 25 = .ok (.aload_n 0, 1) := dq_42 (fd_r fcX12_takenRows (by decide +kernel))
theorem dX12_takenRows_26 : decode cX12_takenRows 26 = .ok (.getfield 218, 3) := dq_180 (a := 0) (b := 218) (fd_r fcX12_takenRows (by decide +kernel)) rfl
theorem dX12_takenRows_29 : decode cX12_takenRows 29 = .ok (.iload 4, 2) := dq_21 (a := 4) (fd_r fcX12_takenRows (by decide +kernel))
theorem dX12_takenRows_31 : decode cX12_takenRows 31 = .ok (.iaload, 1) := dq_46 (fd_r fcX12_takenRows (by decide +kernel))
theorem dX12_takenRows_32 : decode cX12_takenRows 32 = .ok (.ifCond .le 24, 3) := dq_158 (a := 0) (b := 24) (fd_r fcX12_takenRows (by decide +kernel)) rfl
theorem dX12_takenRows_35 : decode cX12_takenRows 35 = .ok (.iload 4, 2) := dq_21 (a := 4) (fd_r fcX12_takenRows (by decide +kernel))
theorem dX12_takenRows_37 : decode cX12_takenRows 37 = .ok (.iload_n 2, 1) := dq_28 (fd_r fcX12_takenRows (by decide +kernel))
theorem dX12_takenRows_38 : decode cX12_takenRows 38 = .ok (.iand, 1) := dq_126 (fd_r fcX12_takenRows (by decide +kernel))
theorem dX12_takenRows_39 : decode cX12_takenRows 39 = .ok (.invokestatic 495, 3) := dq_184 (a := 1) (b := 239) (fd_r fcX12_takenRows (by decide +kernel)) rfl
theorem dX12_takenRows_42 : decode cX12_takenRows 42 = .ok (.iload_n 1, 1) := dq_27 (fd_r fcX12_takenRows (by decide +kernel))
theorem dX12_takenRows_43 : decode cX12_takenRows 43 = .ok (.if_icmp .ne 13, 3) := dq_160 (a := 0) (b := 13) (fd_r fcX12_takenRows (by decide +kernel)) rfl
theorem dX12_takenRows_46 : decode cX12_takenRows 46 = .ok (.aload_n 0, 1) := dq_42 (fd_r fcX12_takenRows (by decide +kernel))
theorem dX12_takenRows_47 : decode cX12_takenRows 47 = .ok (.getfield 218, 3) := dq_180 (a := 0) (b := 218) (fd_r fcX12_takenRows (by decide +kernel)) rfl
theorem dX12_takenRows_50 : decode cX12_takenRows 50 = .ok (.iload 4, 2) := dq_21 (a := 4) (fd_r fcX12_takenRows (by decide +kernel))
theorem dX12_takenRows_52 : decode cX12_takenRows 52 = .ok (.iaload, 1) := dq_46 (fd_r fcX12_takenRows (by decide +kernel))
theorem dX12_takenRows_53 : decode cX12_takenRows 53 = .ok (.goto 4, 3) := dq_167 (a := 0) (b := 4) (fd_r fcX12_takenRows (by decide +kernel)) rfl
theorem dX12_takenRows_56 : decode cX12_takenRows 56 = .ok (.iconst 0, 1) := dq_3 (fd_r fcX12_takenRows (by decide +kernel))
theorem dX12_takenRows_57 : decode cX12_takenRows 57 = .ok (.iadd, 1) := dq_96 (fd_r fcX12_takenRows (by decide +kernel))
theorem dX12_takenRows_58 : decode cX12_takenRows 58 = .ok (.istore_n 3, 1) := dq_62 (fd_r fcX12_takenRows (by decide +kernel))
theorem dX12_takenRows_59 : decode cX12_takenRows 59 = .ok (.iinc 4 1, 3) := dq_132 (a := 4) (b := 1) (fd_r fcX12_takenRows (by decide +kernel)) rfl
theorem dX12_takenRows_62 : decode cX12_takenRows 62 = .ok (.goto (-46), 3) := dq_167 (a := 255) (b := 210) (fd_r fcX12_takenRows (by decide +kernel)) rfl
theorem dX12_takenRows_65 : decode cX12_takenRows 65 = .ok (.iload_n 3, 1) := dq_29 (fd_r fcX12_takenRows (by decide +kernel))
theorem dX12_takenRows_66 : decode cX12_takenRows 66 = .ok (.ireturn, 1) := dq_172 (fd_r fcX12_takenRows (by decide +kernel))
theorem dX12_arm_0 : decode cX12_arm 0 = .ok (.aload_n 0, 1) := dq_42 (fd_r fcX12_arm (by decide +kernel))
theorem dX12_arm_1 : decode cX12_arm 1 = .ok (.iload_n 1, 1) := dq_27 (fd_r fcX12_arm (by decide +kernel))
theorem dX12_arm_2 : decode cX12_arm 2 = .ok (.invokevirtual 498, 3) := dq_182 (a := 1) (b := 242) (fd_r fcX12_arm (by decide +kernel)) rfl
theorem dX12_arm_5 : decode cX12_arm 5 = .ok (.ifCond .ne 5, 3) := dq_154 (a := 0) (b := 5) (fd_r fcX12_arm (by decide +kernel)) rfl
theorem dX12_arm_8 : decode cX12_arm 8 = .ok (.iconst (-1), 1) := dq_2 (fd_r fcX12_arm (by decide +kernel))
theorem dX12_arm_9 : decode cX12_arm 9 = .ok (.ireturn, 1) := dq_172 (fd_r fcX12_arm (by decide +kernel))
theorem dX12_arm_10 : decode cX12_arm 10 = .ok (.aload_n 0, 1) := dq_42 (fd_r fcX12_arm (by decide +kernel))
theorem dX12_arm_11 : decode cX12_arm 11 = .ok (.iconst 0, 1) := dq_3 (fd_r fcX12_arm (by decide +kernel))
theorem dX12_arm_12 : decode cX12_arm 12 = .ok (.invokevirtual 501, 3) := dq_182 (a := 1) (b := 245) (fd_r fcX12_arm (by decide +kernel)) rfl
theorem dX12_arm_15 : decode cX12_arm 15 = .ok (.iload_n 2, 1) := dq_28 (fd_r fcX12_arm (by decide +kernel))
theorem dX12_arm_16 : decode cX12_arm 16 = .ok (.ifCond .ne 10, 3) := dq_154 (a := 0) (b := 10) (fd_r fcX12_arm (by decide +kernel)) rfl
theorem dX12_arm_19 : decode cX12_arm 19 = .ok (.aload_n 0, 1) := dq_42 (fd_r fcX12_arm (by decide +kernel))
theorem dX12_arm_20 : decode cX12_arm 20 = .ok (.getfield 176, 3) := dq_180 (a := 0) (b := 176) (fd_r fcX12_arm (by decide +kernel)) rfl
theorem dX12_arm_23 : decode cX12_arm 23 = .ok (.iload_n 1, 1) := dq_27 (fd_r fcX12_arm (by decide +kernel))
theorem dX12_arm_24 : decode cX12_arm 24 = .ok (.iaload, 1) := dq_46 (fd_r fcX12_arm (by decide +kernel))
theorem dX12_arm_25 : decode cX12_arm 25 = .ok (.ireturn, 1) := dq_172 (fd_r fcX12_arm (by decide +kernel))
theorem dX12_arm_26 : decode cX12_arm 26 = .ok (.iload_n 2, 1) := dq_28 (fd_r fcX12_arm (by decide +kernel))
theorem dX12_arm_27 : decode cX12_arm 27 = .ok (.iconst 1, 1) := dq_4 (fd_r fcX12_arm (by decide +kernel))
theorem dX12_arm_28 : decode cX12_arm 28 = .ok (.if_icmp .ne 10, 3) := dq_160 (a := 0) (b := 10) (fd_r fcX12_arm (by decide +kernel)) rfl
theorem dX12_arm_31 : decode cX12_arm 31 = .ok (.aload_n 0, 1) := dq_42 (fd_r fcX12_arm (by decide +kernel))
theorem dX12_arm_32 : decode cX12_arm 32 = .ok (.getfield 209, 3) := dq_180 (a := 0) (b := 209) (fd_r fcX12_arm (by decide +kernel)) rfl
theorem dX12_arm_35 : decode cX12_arm 35 = .ok (.iload_n 1, 1) := dq_27 (fd_r fcX12_arm (by decide +kernel))
theorem dX12_arm_36 : decode cX12_arm 36 = .ok (.iaload, 1) := dq_46 (fd_r fcX12_arm (by decide +kernel))
theorem dX12_arm_37 : decode cX12_arm 37 = .ok (.ireturn, 1) := dq_172 (fd_r fcX12_arm (by decide +kernel))
theorem dX12_arm_38 : decode cX12_arm 38 = .ok (.iload_n 2, 1) := dq_28 (fd_r fcX12_arm (by decide +kernel))
theorem dX12_arm_39 : decode cX12_arm 39 = .ok (.iconst 2, 1) := dq_5 (fd_r fcX12_arm (by decide +kernel))
theorem dX12_arm_40 : decode cX12_arm 40 = .ok (.iconst 4, 1) := dq_7 (fd_r fcX12_arm (by decide +kernel))
theorem dX12_arm_41 : decode cX12_arm 41 = .ok (.invokestatic 362, 3) := dq_184 (a := 1) (b := 106) (fd_r fcX12_arm (by decide +kernel)) rfl
theorem dX12_arm_44 : decode cX12_arm 44 = .ok (.ifCond .ne 5, 3) := dq_154 (a := 0) (b := 5) (fd_r fcX12_arm (by decide +kernel)) rfl
theorem dX12_arm_47 : decode cX12_arm 47 = .ok (.iconst (-1), 1) := dq_2 (fd_r fcX12_arm (by decide +kernel))
theorem dX12_arm_48 : decode cX12_arm 48 = .ok (.ireturn, 1) := dq_172 (fd_r fcX12_arm (by decide +kernel))
theorem dX12_arm_49 : decode cX12_arm 49 = .ok (.aload_n 0, 1) := dq_42 (fd_r fcX12_arm (by decide +kernel))
theorem dX12_arm_50 : decode cX12_arm 50 = .ok (.invokevirtual 504, 3) := dq_182 (a := 1) (b := 248) (fd_r fcX12_arm (by decide +kernel)) rfl
theorem dX12_arm_53 : decode cX12_arm 53 = .ok (.iload_n 2, 1) := dq_28 (fd_r fcX12_arm (by decide +kernel))
theorem dX12_arm_54 : decode cX12_arm 54 = .ok (.iconst 2, 1) := dq_5 (fd_r fcX12_arm (by decide +kernel))
theorem dX12_arm_55 : decode cX12_arm 55 = .ok (.if_icmp .ne 11, 3) := dq_160 (a := 0) (b := 11) (fd_r fcX12_arm (by decide +kernel)) rfl
theorem dX12_arm_58 : decode cX12_arm 58 = .ok (.aload_n 0, 1) := dq_42 (fd_r fcX12_arm (by decide +kernel))
theorem dX12_arm_59 : decode cX12_arm 59 = .ok (.iload_n 1, 1) := dq_27 (fd_r fcX12_arm (by decide +kernel))
theorem dX12_arm_60 : decode cX12_arm 60 = .ok (.invokevirtual 507, 3) := dq_182 (a := 1) (b := 251) (fd_r fcX12_arm (by decide +kernel)) rfl
theorem dX12_arm_63 : decode cX12_arm 63 = .ok (.goto 21, 3) := dq_167 (a := 0) (b := 21) (fd_r fcX12_arm (by decide +kernel)) rfl
theorem dX12_arm_66 : decode cX12_arm 66 = .ok (.iload_n 2, 1) := dq_28 (fd_r fcX12_arm (by decide +kernel))
theorem dX12_arm_67 : decode cX12_arm 67 = .ok (.iconst 3, 1) := dq_6 (fd_r fcX12_arm (by decide +kernel))
theorem dX12_arm_68 : decode cX12_arm 68 = .ok (.if_icmp .ne 11, 3) := dq_160 (a := 0) (b := 11) (fd_r fcX12_arm (by decide +kernel)) rfl
theorem dX12_arm_71 : decode cX12_arm 71 = .ok (.aload_n 0, 1) := dq_42 (fd_r fcX12_arm (by decide +kernel))
theorem dX12_arm_72 : decode cX12_arm 72 = .ok (.iload_n 1, 1) := dq_27 (fd_r fcX12_arm (by decide +kernel))
theorem dX12_arm_73 : decode cX12_arm 73 = .ok (.invokevirtual 510, 3) := dq_182 (a := 1) (b := 254) (fd_r fcX12_arm (by decide +kernel)) rfl
theorem dX12_arm_76 : decode cX12_arm 76 = .ok (.goto 8, 3) := dq_167 (a := 0) (b := 8) (fd_r fcX12_arm (by decide +kernel)) rfl
theorem dX12_arm_79 : decode cX12_arm 79 = .ok (.aload_n 0, 1) := dq_42 (fd_r fcX12_arm (by decide +kernel))
theorem dX12_arm_80 : decode cX12_arm 80 = .ok (.iload_n 1, 1) := dq_27 (fd_r fcX12_arm (by decide +kernel))
theorem dX12_arm_81 : decode cX12_arm 81 = .ok (.invokevirtual 513, 3) := dq_182 (a := 2) (b := 1) (fd_r fcX12_arm (by decide +kernel)) rfl
theorem dX12_arm_84 : decode cX12_arm 84 = .ok (.ireturn, 1) := dq_172 (fd_r fcX12_arm (by decide +kernel))
theorem dX12_fits_0 : decode cX12_fits 0 = .ok (.aload_n 0, 1) := dq_42 (fd_r fcX12_fits (by decide +kernel))
theorem dX12_fits_1 : decode cX12_fits 1 = .ok (.iload_n 1, 1) := dq_27 (fd_r fcX12_fits (by decide +kernel))
theorem dX12_fits_2 : decode cX12_fits 2 = .ok (.invokevirtual 498, 3) := dq_182 (a := 1) (b := 242) (fd_r fcX12_fits (by decide +kernel)) rfl
theorem dX12_fits_5 : decode cX12_fits 5 = .ok (.ifCond .eq 32, 3) := dq_153 (a := 0) (b := 32) (fd_r fcX12_fits (by decide +kernel)) rfl
theorem dX12_fits_8 : decode cX12_fits 8 = .ok (.iload_n 2, 1) := dq_28 (fd_r fcX12_fits (by decide +kernel))
theorem dX12_fits_9 : decode cX12_fits 9 = .ok (.iconst 0, 1) := dq_3 (fd_r fcX12_fits (by decide +kernel))
theorem dX12_fits_10 : decode cX12_fits 10 = .ok (.aload_n 0, 1) := dq_42 (fd_r fcX12_fits (by decide +kernel))
theorem dX12_fits_11 : decode cX12_fits 11 = .ok (.invokevirtual 459, 3) := dq_182 (a := 1) (b := 203) (fd_r fcX12_fits (by decide +kernel)) rfl
theorem dX12_fits_14 : decode cX12_fits 14 = .ok (.iconst 1, 1) := dq_4 (fd_r fcX12_fits (by decide +kernel))
theorem dX12_fits_15 : decode cX12_fits 15 = .ok (.isub, 1) := dq_100 (fd_r fcX12_fits (by decide +kernel))
end
section
theorem dX12_fits_16 : decode cX12_fits 16 = .ok (.invokestatic 362, 3) := dq_184 (a := 1) (b := 106) (fd_r fcX12_fits (by decide +kernel)) rfl
theorem dX12_fits_19 : decode cX12_fits 19 = .ok (.ifCond .eq 18, 3) := dq_153 (a := 0) (b := 18) (fd_r fcX12_fits (by decide +kernel)) rfl
theorem dX12_fits_22 : decode cX12_fits 22 = .ok (.iload_n 3, 1) := dq_29 (fd_r fcX12_fits (by decide +kernel))
theorem dX12_fits_23 : decode cX12_fits 23 = .ok (.iconst 0, 1) := dq_3 (fd_r fcX12_fits (by decide +kernel))
theorem dX12_fits_24 : decode cX12_fits 24 = .ok (.aload_n 0, 1) := dq_42 (fd_r fcX12_fits (by decide +kernel))
theorem dX12_fits_25 : decode cX12_fits 25 = .ok (.iload_n 2, 1) := dq_28 (fd_r fcX12_fits (by decide +kernel))
theorem dX12_fits_26 : decode cX12_fits 26 = .ok (.invokevirtual 463, 3) := dq_182 (a := 1) (b := 207) (fd_r fcX12_fits (by decide +kernel)) rfl
theorem dX12_fits_29 : decode cX12_fits 29 = .ok (.iconst 1, 1) := dq_4 (fd_r fcX12_fits (by decide +kernel))
theorem dX12_fits_30 : decode cX12_fits 30 = .ok (.isub, 1) := dq_100 (fd_r fcX12_fits (by decide +kernel))
theorem dX12_fits_31 : decode cX12_fits 31 = .ok (.invokestatic 362, 3) := dq_184 (a := 1) (b := 106) (fd_r fcX12_fits (by decide +kernel)) rfl
theorem dX12_fits_34 : decode cX12_fits 34 = .ok (.ifCond .ne 5, 3) := dq_154 (a := 0) (b := 5) (fd_r fcX12_fits (by decide +kernel)) rfl
theorem dX12_fits_37 : decode cX12_fits 37 = .ok (.iconst (-1), 1) := dq_2 (fd_r fcX12_fits (by decide +kernel))
theorem dX12_fits_38 : decode cX12_fits 38 = .ok (.ireturn, 1) := dq_172 (fd_r fcX12_fits (by decide +kernel))
theorem dX12_fits_39 : decode cX12_fits 39 = .ok (.aload_n 0, 1) := dq_42 (fd_r fcX12_fits (by decide +kernel))
theorem dX12_fits_40 : decode cX12_fits 40 = .ok (.iconst 0, 1) := dq_3 (fd_r fcX12_fits (by decide +kernel))
theorem dX12_fits_41 : decode cX12_fits 41 = .ok (.invokevirtual 501, 3) := dq_182 (a := 1) (b := 245) (fd_r fcX12_fits (by decide +kernel)) rfl
theorem dX12_fits_44 : decode cX12_fits 44 = .ok (.aload_n 0, 1) := dq_42 (fd_r fcX12_fits (by decide +kernel))
theorem dX12_fits_45 : decode cX12_fits 45 = .ok (.iload_n 2, 1) := dq_28 (fd_r fcX12_fits (by decide +kernel))
theorem dX12_fits_46 : decode cX12_fits 46 = .ok (.iload_n 3, 1) := dq_29 (fd_r fcX12_fits (by decide +kernel))
theorem dX12_fits_47 : decode cX12_fits 47 = .ok (.invokevirtual 481, 3) := dq_182 (a := 1) (b := 225) (fd_r fcX12_fits (by decide +kernel)) rfl
theorem dX12_fits_50 : decode cX12_fits 50 = .ok (.iload_n 1, 1) := dq_27 (fd_r fcX12_fits (by decide +kernel))
theorem dX12_fits_51 : decode cX12_fits 51 = .ok (.ishr, 1) := dq_122 (fd_r fcX12_fits (by decide +kernel))
theorem dX12_fits_52 : decode cX12_fits 52 = .ok (.iconst 1, 1) := dq_4 (fd_r fcX12_fits (by decide +kernel))
theorem dX12_fits_53 : decode cX12_fits 53 = .ok (.iand, 1) := dq_126 (fd_r fcX12_fits (by decide +kernel))
theorem dX12_fits_54 : decode cX12_fits 54 = .ok (.ireturn, 1) := dq_172 (fd_r fcX12_fits (by decide +kernel))
theorem dX12_holds_0 : decode cX12_holds 0 = .ok (.aload_n 0, 1) := dq_42 (fd_r fcX12_holds (by decide +kernel))
theorem dX12_holds_1 : decode cX12_holds 1 = .ok (.iload_n 1, 1) := dq_27 (fd_r fcX12_holds (by decide +kernel))
theorem dX12_holds_2 : decode cX12_holds 2 = .ok (.invokevirtual 498, 3) := dq_182 (a := 1) (b := 242) (fd_r fcX12_holds (by decide +kernel)) rfl
theorem dX12_holds_5 : decode cX12_holds 5 = .ok (.ifCond .eq 11, 3) := dq_153 (a := 0) (b := 11) (fd_r fcX12_holds (by decide +kernel)) rfl
theorem dX12_holds_8 : decode cX12_holds 8 = .ok (.aload_n 0, 1) := dq_42 (fd_r fcX12_holds (by decide +kernel))
theorem dX12_holds_9 : decode cX12_holds 9 = .ok (.iload_n 2, 1) := dq_28 (fd_r fcX12_holds (by decide +kernel))
theorem dX12_holds_10 : decode cX12_holds 10 = .ok (.invokevirtual 498, 3) := dq_182 (a := 1) (b := 242) (fd_r fcX12_holds (by decide +kernel)) rfl
theorem dX12_holds_13 : decode cX12_holds 13 = .ok (.ifCond .ne 5, 3) := dq_154 (a := 0) (b := 5) (fd_r fcX12_holds (by decide +kernel)) rfl
theorem dX12_holds_16 : decode cX12_holds 16 = .ok (.iconst (-1), 1) := dq_2 (fd_r fcX12_holds (by decide +kernel))
theorem dX12_holds_17 : decode cX12_holds 17 = .ok (.ireturn, 1) := dq_172 (fd_r fcX12_holds (by decide +kernel))
theorem dX12_holds_18 : decode cX12_holds 18 = .ok (.aload_n 0, 1) := dq_42 (fd_r fcX12_holds (by decide +kernel))
theorem dX12_holds_19 : decode cX12_holds 19 = .ok (.iconst 0, 1) := dq_3 (fd_r fcX12_holds (by decide +kernel))
theorem dX12_holds_20 : decode cX12_holds 20 = .ok (.invokevirtual 501, 3) := dq_182 (a := 1) (b := 245) (fd_r fcX12_holds (by decide +kernel)) rfl
theorem dX12_holds_23 : decode cX12_holds 23 = .ok (.aload_n 0, 1) := dq_42 (fd_r fcX12_holds (by decide +kernel))
theorem dX12_holds_24 : decode cX12_holds 24 = .ok (.invokevirtual 504, 3) := dq_182 (a := 1) (b := 248) (fd_r fcX12_holds (by decide +kernel)) rfl
theorem dX12_holds_27 : decode cX12_holds 27 = .ok (.iconst 0, 1) := dq_3 (fd_r fcX12_holds (by decide +kernel))
theorem dX12_holds_28 : decode cX12_holds 28 = .ok (.istore_n 3, 1) := dq_62 (fd_r fcX12_holds (by decide +kernel))
theorem dX12_holds_29 : decode cX12_holds 29 = .ok (.iload_n 3, 1) := dq_29 (fd_r fcX12_holds (by decide +kernel))
theorem dX12_holds_30 : decode cX12_holds 30 = .ok (.sipush 4096, 3) := dq_17 (a := 16) (b := 0) (fd_r fcX12_holds (by decide +kernel)) rfl
theorem dX12_holds_33 : decode cX12_holds 33 = .ok (.if_icmp .ge 37, 3) := dq_162 (a := 0) (b := 37) (fd_r fcX12_holds (by decide +kernel)) rfl
theorem dX12_holds_36 : decode cX12_holds 36 = .ok (.aload_n 0, 1) := dq_42 (fd_r fcX12_holds (by decide +kernel))
theorem dX12_holds_37 : decode cX12_holds 37 = .ok (.getfield 218, 3) := dq_180 (a := 0) (b := 218) (fd_r fcX12_holds (by decide +kernel)) rfl
theorem dX12_holds_40 : decode cX12_holds 40 = .ok (.iload_n 3, 1) := dq_29 (fd_r fcX12_holds (by decide +kernel))
theorem dX12_holds_41 : decode cX12_holds 41 = .ok (.iaload, 1) := dq_46 (fd_r fcX12_holds (by decide +kernel))
theorem dX12_holds_42 : decode cX12_holds 42 = .ok (.ifCond .le 22, 3) := dq_158 (a := 0) (b := 22) (fd_r fcX12_holds (by decide +kernel)) rfl
theorem dX12_holds_45 : decode cX12_holds 45 = .ok (.iload_n 3, 1) := dq_29 (fd_r fcX12_holds (by decide +kernel))
theorem dX12_holds_46 : decode cX12_holds 46 = .ok (.iload_n 2, 1) := dq_28 (fd_r fcX12_holds (by decide +kernel))
theorem dX12_holds_47 : decode cX12_holds 47 = .ok (.ishr, 1) := dq_122 (fd_r fcX12_holds (by decide +kernel))
theorem dX12_holds_48 : decode cX12_holds 48 = .ok (.iconst 1, 1) := dq_4 (fd_r fcX12_holds (by decide +kernel))
theorem dX12_holds_49 : decode cX12_holds 49 = .ok (.iand, 1) := dq_126 (fd_r fcX12_holds (by decide +kernel))
theorem dX12_holds_50 : decode cX12_holds 50 = .ok (.iconst 1, 1) := dq_4 (fd_r fcX12_holds (by decide +kernel))
theorem dX12_holds_51 : decode cX12_holds 51 = .ok (.if_icmp .ne 13, 3) := dq_160 (a := 0) (b := 13) (fd_r fcX12_holds (by decide +kernel)) rfl
theorem dX12_holds_54 : decode cX12_holds 54 = .ok (.iload_n 3, 1) := dq_29 (fd_r fcX12_holds (by decide +kernel))
theorem dX12_holds_55 : decode cX12_holds 55 = .ok (.iload_n 1, 1) := dq_27 (fd_r fcX12_holds (by decide +kernel))
theorem dX12_holds_56 : decode cX12_holds 56 = .ok (.ishr, 1) := dq_122 (fd_r fcX12_holds (by decide +kernel))
theorem dX12_holds_57 : decode cX12_holds 57 = .ok (.iconst 1, 1) := dq_4 (fd_r fcX12_holds (by decide +kernel))
theorem dX12_holds_58 : decode cX12_holds 58 = .ok (.iand, 1) := dq_126 (fd_r fcX12_holds (by decide +kernel))
theorem dX12_holds_59 : decode cX12_holds 59 = .ok (.ifCond .ne 5, 3) := dq_154 (a := 0) (b := 5) (fd_r fcX12_holds (by decide +kernel)) rfl
theorem dX12_holds_62 : decode cX12_holds 62 = .ok (.iconst 0, 1) := dq_3 (fd_r fcX12_holds (by decide +kernel))
theorem dX12_holds_63 : decode cX12_holds 63 = .ok (.ireturn, 1) := dq_172 (fd_r fcX12_holds (by decide +kernel))
theorem dX12_holds_64 : decode cX12_holds 64 = .ok (.iinc 3 1, 3) := dq_132 (a := 3) (b := 1) (fd_r fcX12_holds (by decide +kernel)) rfl
theorem dX12_holds_67 : decode cX12_holds 67 = .ok (.goto (-38), 3) := dq_167 (a := 255) (b := 218) (fd_r fcX12_holds (by decide +kernel)) rfl
theorem dX12_holds_70 : decode cX12_holds 70 = .ok (.iconst 1, 1) := dq_4 (fd_r fcX12_holds (by decide +kernel))
theorem dX12_holds_71 : decode cX12_holds 71 = .ok (.ireturn, 1) := dq_172 (fd_r fcX12_holds (by decide +kernel))
theorem dX12_missing_0 : decode cX12_missing 0 = .ok (.aload_n 0, 1) := dq_42 (fd_r fcX12_missing (by decide +kernel))
theorem dX12_missing_1 : decode cX12_missing 1 = .ok (.getfield 146, 3) := dq_180 (a := 0) (b := 146) (fd_r fcX12_missing (by decide +kernel)) rfl
theorem dX12_missing_4 : decode cX12_missing 4 = .ok (.ifCond .eq 8, 3) := dq_153 (a := 0) (b := 8) (fd_r fcX12_missing (by decide +kernel)) rfl
theorem dX12_missing_7 : decode cX12_missing 7 = .ok (.iload_n 1, 1) := dq_27 (fd_r fcX12_missing (by decide +kernel))
theorem dX12_missing_8 : decode cX12_missing 8 = .ok (.iconst (-1), 1) := dq_2 (fd_r fcX12_missing (by decide +kernel))
theorem dX12_missing_9 : decode cX12_missing 9 = .ok (.if_icmp .ge 5, 3) := dq_162 (a := 0) (b := 5) (fd_r fcX12_missing (by decide +kernel)) rfl
theorem dX12_missing_12 : decode cX12_missing 12 = .ok (.iconst (-1), 1) := dq_2 (fd_r fcX12_missing (by decide +kernel))
theorem dX12_missing_13 : decode cX12_missing 13 = .ok (.ireturn, 1) := dq_172 (fd_r fcX12_missing (by decide +kernel))
theorem dX12_missing_14 : decode cX12_missing 14 = .ok (.aload_n 0, 1) := dq_42 (fd_r fcX12_missing (by decide +kernel))
theorem dX12_missing_15 : decode cX12_missing 15 = .ok (.iconst 0, 1) := dq_3 (fd_r fcX12_missing (by decide +kernel))
theorem dX12_missing_16 : decode cX12_missing 16 = .ok (.invokevirtual 501, 3) := dq_182 (a := 1) (b := 245) (fd_r fcX12_missing (by decide +kernel)) rfl
theorem dX12_missing_19 : decode cX12_missing 19 = .ok (.iconst 0, 1) := dq_3 (fd_r fcX12_missing (by decide +kernel))
theorem dX12_missing_20 : decode cX12_missing 20 = .ok (.istore_n 2, 1) := dq_61 (fd_r fcX12_missing (by decide +kernel))
theorem dX12_missing_21 : decode cX12_missing 21 = .ok (.iconst 0, 1) := dq_3 (fd_r fcX12_missing (by decide +kernel))
theorem dX12_missing_22 : decode cX12_missing 22 = .ok (.istore_n 3, 1) := dq_62 (fd_r fcX12_missing (by decide +kernel))
theorem dX12_missing_23 : decode cX12_missing 23 = .ok (.iload_n 3, 1) := dq_29 (fd_r fcX12_missing (by decide +kernel))
theorem dX12_missing_24 : decode cX12_missing 24 = .ok (.aload_n 0, 1) := dq_42 (fd_r fcX12_missing (by decide +kernel))
theorem dX12_missing_25 : decode cX12_missing 25 = .ok (.getfield 170, 3) := dq_180 (a := 0) (b := 170) (fd_r fcX12_missing (by decide +kernel)) rfl
theorem dX12_missing_28 : decode cX12_missing 28 = .ok (.if_icmp .ge 35, 3) := dq_162 (a := 0) (b := 35) (fd_r fcX12_missing (by decide +kernel)) rfl
theorem dX12_missing_31 : decode cX12_missing 31 = .ok (.aload_n 0, 1) := dq_42 (fd_r fcX12_missing (by decide +kernel))
theorem dX12_missing_32 : decode cX12_missing 32 = .ok (.iload_n 3, 1) := dq_29 (fd_r fcX12_missing (by decide +kernel))
theorem dX12_missing_33 : decode cX12_missing 33 = .ok (.invokevirtual 484, 3) := dq_182 (a := 1) (b := 228) (fd_r fcX12_missing (by decide +kernel)) rfl
theorem dX12_missing_36 : decode cX12_missing 36 = .ok (.aload_n 0, 1) := dq_42 (fd_r fcX12_missing (by decide +kernel))
theorem dX12_missing_37 : decode cX12_missing 37 = .ok (.getfield 212, 3) := dq_180 (a := 0) (b := 212) (fd_r fcX12_missing (by decide +kernel)) rfl
theorem dX12_missing_40 : decode cX12_missing 40 = .ok (.iand, 1) := dq_126 (fd_r fcX12_missing (by decide +kernel))
theorem dX12_missing_41 : decode cX12_missing 41 = .ok (.ifCond .eq 6, 3) := dq_153 (a := 0) (b := 6) (fd_r fcX12_missing (by decide +kernel)) rfl
theorem dX12_missing_44 : decode cX12_missing 44 = .ok (.goto 13, 3) := dq_167 (a := 0) (b := 13) (fd_r fcX12_missing (by decide +kernel)) rfl
theorem dX12_missing_47 : decode cX12_missing 47 = .ok (.iload_n 2, 1) := dq_28 (fd_r fcX12_missing (by decide +kernel))
theorem dX12_missing_48 : decode cX12_missing 48 = .ok (.iload_n 1, 1) := dq_27 (fd_r fcX12_missing (by decide +kernel))
theorem dX12_missing_49 : decode cX12_missing 49 = .ok (.if_icmp .ne 5, 3) := dq_160 (a := 0) (b := 5) (fd_r fcX12_missing (by decide +kernel)) rfl
theorem dX12_missing_52 : decode cX12_missing 52 = .ok (.iload_n 3, 1) := dq_29 (fd_r fcX12_missing (by decide +kernel))
theorem dX12_missing_53 : decode cX12_missing 53 = .ok (.ireturn, 1) := dq_172 (fd_r fcX12_missing (by decide +kernel))
theorem dX12_missing_54 : decode cX12_missing 54 = .ok (.iinc 2 1, 3) := dq_132 (a := 2) (b := 1) (fd_r fcX12_missing (by decide +kernel)) rfl
theorem dX12_missing_57 : decode cX12_missing 57 = .ok (.iinc 3 1, 3) := dq_132 (a := 3) (b := 1) (fd_r fcX12_missing (by decide +kernel)) rfl
theorem dX12_missing_60 : decode cX12_missing 60 = .ok (.goto (-37), 3) := dq_167 (a := 255) (b := 219) (fd_r fcX12_missing (by decide +kernel)) rfl
theorem dX12_missing_63 : decode cX12_missing 63 = .ok (.iload_n 1, 1) := dq_27 (fd_r fcX12_missing (by decide +kernel))
theorem dX12_missing_64 : decode cX12_missing 64 = .ok (.iconst (-1), 1) := dq_2 (fd_r fcX12_missing (by decide +kernel))
theorem dX12_missing_65 : decode cX12_missing 65 = .ok (.if_icmp .ne 7, 3) := dq_160 (a := 0) (b := 7) (fd_r fcX12_missing (by decide +kernel)) rfl
theorem dX12_missing_68 : decode cX12_missing 68 = .ok (.iload_n 2, 1) := dq_28 (fd_r fcX12_missing (by decide +kernel))
theorem dX12_missing_69 : decode cX12_missing 69 = .ok (.goto 4, 3) := dq_167 (a := 0) (b := 4) (fd_r fcX12_missing (by decide +kernel)) rfl
theorem dX12_missing_72 : decode cX12_missing 72 = .ok (.iconst (-1), 1) := dq_2 (fd_r fcX12_missing (by decide +kernel))
theorem dX12_missing_73 : decode cX12_missing 73 = .ok (.ireturn, 1) := dq_172 (fd_r fcX12_missing (by decide +kernel))
theorem dX12_isRow_0 : decode cX12_isRow 0 = .ok (.aload_n 0, 1) := dq_42 (fd_r fcX12_isRow (by decide +kernel))
theorem dX12_isRow_1 : decode cX12_isRow 1 = .ok (.getfield 146, 3) := dq_180 (a := 0) (b := 146) (fd_r fcX12_isRow (by decide +kernel)) rfl
theorem dX12_isRow_4 : decode cX12_isRow 4 = .ok (.ifCond .eq 21, 3) := dq_153 (a := 0) (b := 21) (fd_r fcX12_isRow (by decide +kernel)) rfl
theorem dX12_isRow_7 : decode cX12_isRow 7 = .ok (.iload_n 1, 1) := dq_27 (fd_r fcX12_isRow (by decide +kernel))
theorem dX12_isRow_8 : decode cX12_isRow 8 = .ok (.iconst 0, 1) := dq_3 (fd_r fcX12_isRow (by decide +kernel))
theorem dX12_isRow_9 : decode cX12_isRow 9 = .ok (.aload_n 0, 1) := dq_42 (fd_r fcX12_isRow (by decide +kernel))
theorem dX12_isRow_10 : decode cX12_isRow 10 = .ok (.getfield 170, 3) := dq_180 (a := 0) (b := 170) (fd_r fcX12_isRow (by decide +kernel)) rfl
theorem dX12_isRow_13 : decode cX12_isRow 13 = .ok (.iconst 1, 1) := dq_4 (fd_r fcX12_isRow (by decide +kernel))
theorem dX12_isRow_14 : decode cX12_isRow 14 = .ok (.isub, 1) := dq_100 (fd_r fcX12_isRow (by decide +kernel))
theorem dX12_isRow_15 : decode cX12_isRow 15 = .ok (.invokestatic 362, 3) := dq_184 (a := 1) (b := 106) (fd_r fcX12_isRow (by decide +kernel)) rfl
theorem dX12_isRow_18 : decode cX12_isRow 18 = .ok (.ifCond .eq 7, 3) := dq_153 (a := 0) (b := 7) (fd_r fcX12_isRow (by decide +kernel)) rfl
theorem dX12_isRow_21 : decode cX12_isRow 21 = .ok (.iconst 1, 1) := dq_4 (fd_r fcX12_isRow (by decide +kernel))
theorem dX12_isRow_22 : decode cX12_isRow 22 = .ok (.goto 4, 3) := dq_167 (a := 0) (b := 4) (fd_r fcX12_isRow (by decide +kernel)) rfl
theorem dX12_isRow_25 : decode cX12_isRow 25 = .ok (.iconst 0, 1) := dq_3 (fd_r fcX12_isRow (by decide +kernel))
theorem dX12_isRow_26 : decode cX12_isRow 26 = .ok (.ireturn, 1) := dq_172 (fd_r fcX12_isRow (by decide +kernel))
theorem dX12_taken_0 : decode cX12_taken 0 = .ok (.aload_n 0, 1) := dq_42 (fd_r fcX12_taken (by decide +kernel))
theorem dX12_taken_1 : decode cX12_taken 1 = .ok (.iload_n 1, 1) := dq_27 (fd_r fcX12_taken (by decide +kernel))
theorem dX12_taken_2 : decode cX12_taken 2 = .ok (.invokevirtual 516, 3) := dq_182 (a := 2) (b := 4) (fd_r fcX12_taken (by decide +kernel)) rfl
theorem dX12_taken_5 : decode cX12_taken 5 = .ok (.ifCond .ne 5, 3) := dq_154 (a := 0) (b := 5) (fd_r fcX12_taken (by decide +kernel)) rfl
theorem dX12_taken_8 : decode cX12_taken 8 = .ok (.iconst (-1), 1) := dq_2 (fd_r fcX12_taken (by decide +kernel))
theorem dX12_taken_9 : decode cX12_taken 9 = .ok (.ireturn, 1) := dq_172 (fd_r fcX12_taken (by decide +kernel))
theorem dX12_taken_10 : decode cX12_taken 10 = .ok (.aload_n 0, 1) := dq_42 (fd_r fcX12_taken (by decide +kernel))
theorem dX12_taken_11 : decode cX12_taken 11 = .ok (.iconst 0, 1) := dq_3 (fd_r fcX12_taken (by decide +kernel))
theorem dX12_taken_12 : decode cX12_taken 12 = .ok (.invokevirtual 501, 3) := dq_182 (a := 1) (b := 245) (fd_r fcX12_taken (by decide +kernel)) rfl
theorem dX12_taken_15 : decode cX12_taken 15 = .ok (.aload_n 0, 1) := dq_42 (fd_r fcX12_taken (by decide +kernel))
theorem dX12_taken_16 : decode cX12_taken 16 = .ok (.iload_n 1, 1) := dq_27 (fd_r fcX12_taken (by decide +kernel))
theorem dX12_taken_17 : decode cX12_taken 17 = .ok (.invokevirtual 484, 3) := dq_182 (a := 1) (b := 228) (fd_r fcX12_taken (by decide +kernel)) rfl
theorem dX12_taken_20 : decode cX12_taken 20 = .ok (.aload_n 0, 1) := dq_42 (fd_r fcX12_taken (by decide +kernel))
theorem dX12_taken_21 : decode cX12_taken 21 = .ok (.aload_n 0, 1) := dq_42 (fd_r fcX12_taken (by decide +kernel))
theorem dX12_taken_22 : decode cX12_taken 22 = .ok (.getfield 179, 3) := dq_180 (a := 0) (b := 179) (fd_r fcX12_taken (by decide +kernel)) rfl
theorem dX12_taken_25 : decode cX12_taken 25 = .ok (.iconst 0, 1) := dq_3 (fd_r fcX12_taken (by decide +kernel))
theorem dX12_taken_26 : decode cX12_taken 26 = .ok (.iaload, 1) := dq_46 (fd_r fcX12_taken (by decide +kernel))
theorem dX12_taken_27 : decode cX12_taken 27 = .ok (.invokevirtual 492, 3) := dq_182 (a := 1) (b := 236) (fd_r fcX12_taken (by decide +kernel)) rfl
theorem dX12_taken_30 : decode cX12_taken 30 = .ok (.iand, 1) := dq_126 (fd_r fcX12_taken (by decide +kernel))
theorem dX12_taken_31 : decode cX12_taken 31 = .ok (.invokestatic 495, 3) := dq_184 (a := 1) (b := 239) (fd_r fcX12_taken (by decide +kernel)) rfl
theorem dX12_taken_34 : decode cX12_taken 34 = .ok (.ireturn, 1) := dq_172 (fd_r fcX12_taken (by decide +kernel))
theorem dX12_valueRead_0 : decode cX12_valueRead 0 = .ok (.aload_n 0, 1) := dq_42 (fd_r fcX12_valueRead (by decide +kernel))
theorem dX12_valueRead_1 : decode cX12_valueRead 1 = .ok (.iconst 0, 1) := dq_3 (fd_r fcX12_valueRead (by decide +kernel))
theorem dX12_valueRead_2 : decode cX12_valueRead 2 = .ok (.putfield 143, 3) := dq_181 (a := 0) (b := 143) (fd_r fcX12_valueRead (by decide +kernel)) rfl
theorem dX12_valueRead_5 : decode cX12_valueRead 5 = .ok (.aload_n 0, 1) := dq_42 (fd_r fcX12_valueRead (by decide +kernel))
theorem dX12_valueRead_6 : decode cX12_valueRead 6 = .ok (.iload_n 1, 1) := dq_27 (fd_r fcX12_valueRead (by decide +kernel))
theorem dX12_valueRead_7 : decode cX12_valueRead 7 = .ok (.invokevirtual 404, 3) := dq_182 (a := 1) (b := 148) (fd_r fcX12_valueRead (by decide +kernel)) rfl
theorem dX12_valueRead_10 : decode cX12_valueRead 10 = .ok (.iconst 0, 1) := dq_3 (fd_r fcX12_valueRead (by decide +kernel))
theorem dX12_valueRead_11 : decode cX12_valueRead 11 = .ok (.istore_n 2, 1) := dq_61 (fd_r fcX12_valueRead (by decide +kernel))
theorem dX12_valueRead_12 : decode cX12_valueRead 12 = .ok (.iconst 1, 1) := dq_4 (fd_r fcX12_valueRead (by decide +kernel))
theorem dX12_valueRead_13 : decode cX12_valueRead 13 = .ok (.istore_n 3, 1) := dq_62 (fd_r fcX12_valueRead (by decide +kernel))
theorem dX12_valueRead_14 : decode cX12_valueRead 14 = .ok (.iload_n 3, 1) := dq_29 (fd_r fcX12_valueRead (by decide +kernel))
theorem dX12_valueRead_15 : decode cX12_valueRead 15 = .ok (.ifCond .eq 179, 3) := dq_153 (a := 0) (b := 179) (fd_r fcX12_valueRead (by decide +kernel)) rfl
theorem dX12_valueRead_18 : decode cX12_valueRead 18 = .ok (.aload_n 0, 1) := dq_42 (fd_r fcX12_valueRead (by decide +kernel))
theorem dX12_valueRead_19 : decode cX12_valueRead 19 = .ok (.getfield 36, 3) := dq_180 (a := 0) (b := 36) (fd_r fcX12_valueRead (by decide +kernel)) rfl
theorem dX12_valueRead_22 : decode cX12_valueRead 22 = .ok (.ifCond .ne 172, 3) := dq_154 (a := 0) (b := 172) (fd_r fcX12_valueRead (by decide +kernel)) rfl
theorem dX12_valueRead_25 : decode cX12_valueRead 25 = .ok (.aload_n 0, 1) := dq_42 (fd_r fcX12_valueRead (by decide +kernel))
theorem dX12_valueRead_26 : decode cX12_valueRead 26 = .ok (.invokevirtual 331, 3) := dq_182 (a := 1) (b := 75) (fd_r fcX12_valueRead (by decide +kernel)) rfl
theorem dX12_valueRead_29 : decode cX12_valueRead 29 = .ok (.aload_n 0, 1) := dq_42 (fd_r fcX12_valueRead (by decide +kernel))
theorem dX12_valueRead_30 : decode cX12_valueRead 30 = .ok (.getfield 36, 3) := dq_180 (a := 0) (b := 36) (fd_r fcX12_valueRead (by decide +kernel)) rfl
theorem dX12_valueRead_33 : decode cX12_valueRead 33 = .ok (.ifCond .le 5, 3) := dq_158 (a := 0) (b := 5) (fd_r fcX12_valueRead (by decide +kernel)) rfl
theorem dX12_valueRead_36 : decode cX12_valueRead 36 = .ok (.iconst 0, 1) := dq_3 (fd_r fcX12_valueRead (by decide +kernel))
theorem dX12_valueRead_37 : decode cX12_valueRead 37 = .ok (.ireturn, 1) := dq_172 (fd_r fcX12_valueRead (by decide +kernel))
theorem dX12_valueRead_38 : decode cX12_valueRead 38 = .ok (.aload_n 0, 1) := dq_42 (fd_r fcX12_valueRead (by decide +kernel))
theorem dX12_valueRead_39 : decode cX12_valueRead 39 = .ok (.getfield 131, 3) := dq_180 (a := 0) (b := 131) (fd_r fcX12_valueRead (by decide +kernel)) rfl
theorem dX12_valueRead_42 : decode cX12_valueRead 42 = .ok (.aload_n 0, 1) := dq_42 (fd_r fcX12_valueRead (by decide +kernel))
theorem dX12_valueRead_43 : decode cX12_valueRead 43 = .ok (.getfield 143, 3) := dq_180 (a := 0) (b := 143) (fd_r fcX12_valueRead (by decide +kernel)) rfl
theorem dX12_valueRead_46 : decode cX12_valueRead 46 = .ok (.iaload, 1) := dq_46 (fd_r fcX12_valueRead (by decide +kernel))
theorem dX12_valueRead_47 : decode cX12_valueRead 47 = .ok (.iconst 4, 1) := dq_7 (fd_r fcX12_valueRead (by decide +kernel))
theorem dX12_valueRead_48 : decode cX12_valueRead 48 = .ok (.if_icmp .ne 20, 3) := dq_160 (a := 0) (b := 20) (fd_r fcX12_valueRead (by decide +kernel)) rfl
theorem dX12_valueRead_51 : decode cX12_valueRead 51 = .ok (.aload_n 0, 1) := dq_42 (fd_r fcX12_valueRead (by decide +kernel))
theorem dX12_valueRead_52 : decode cX12_valueRead 52 = .ok (.iconst 0, 1) := dq_3 (fd_r fcX12_valueRead (by decide +kernel))
theorem dX12_valueRead_53 : decode cX12_valueRead 53 = .ok (.bipush 19, 2) := dq_16 (a := 19) (fd_r fcX12_valueRead (by decide +kernel)) rfl
theorem dX12_valueRead_55 : decode cX12_valueRead 55 = .ok (.invokevirtual 407, 3) := dq_182 (a := 1) (b := 151) (fd_r fcX12_valueRead (by decide +kernel)) rfl
theorem dX12_valueRead_58 : decode cX12_valueRead 58 = .ok (.istore_n 2, 1) := dq_61 (fd_r fcX12_valueRead (by decide +kernel))
theorem dX12_valueRead_59 : decode cX12_valueRead 59 = .ok (.aload_n 0, 1) := dq_42 (fd_r fcX12_valueRead (by decide +kernel))
theorem dX12_valueRead_60 : decode cX12_valueRead 60 = .ok (.iload_n 2, 1) := dq_28 (fd_r fcX12_valueRead (by decide +kernel))
theorem dX12_valueRead_61 : decode cX12_valueRead 61 = .ok (.invokevirtual 519, 3) := dq_182 (a := 2) (b := 7) (fd_r fcX12_valueRead (by decide +kernel)) rfl
theorem dX12_valueRead_64 : decode cX12_valueRead 64 = .ok (.istore_n 3, 1) := dq_62 (fd_r fcX12_valueRead (by decide +kernel))
theorem dX12_valueRead_65 : decode cX12_valueRead 65 = .ok (.goto (-51), 3) := dq_167 (a := 255) (b := 205) (fd_r fcX12_valueRead (by decide +kernel)) rfl
theorem dX12_valueRead_68 : decode cX12_valueRead 68 = .ok (.aload_n 0, 1) := dq_42 (fd_r fcX12_valueRead (by decide +kernel))
theorem dX12_valueRead_69 : decode cX12_valueRead 69 = .ok (.aload_n 0, 1) := dq_42 (fd_r fcX12_valueRead (by decide +kernel))
theorem dX12_valueRead_70 : decode cX12_valueRead 70 = .ok (.getfield 131, 3) := dq_180 (a := 0) (b := 131) (fd_r fcX12_valueRead (by decide +kernel)) rfl
theorem dX12_valueRead_73 : decode cX12_valueRead 73 = .ok (.aload_n 0, 1) := dq_42 (fd_r fcX12_valueRead (by decide +kernel))
theorem dX12_valueRead_74 : decode cX12_valueRead 74 = .ok (.getfield 143, 3) := dq_180 (a := 0) (b := 143) (fd_r fcX12_valueRead (by decide +kernel)) rfl
theorem dX12_valueRead_77 : decode cX12_valueRead 77 = .ok (.iaload, 1) := dq_46 (fd_r fcX12_valueRead (by decide +kernel))
theorem dX12_valueRead_78 : decode cX12_valueRead 78 = .ok (.invokevirtual 522, 3) := dq_182 (a := 2) (b := 10) (fd_r fcX12_valueRead (by decide +kernel)) rfl
theorem dX12_valueRead_81 : decode cX12_valueRead 81 = .ok (.istore 4, 2) := dq_54 (a := 4) (fd_r fcX12_valueRead (by decide +kernel))
theorem dX12_valueRead_83 : decode cX12_valueRead 83 = .ok (.aload_n 0, 1) := dq_42 (fd_r fcX12_valueRead (by decide +kernel))
theorem dX12_valueRead_84 : decode cX12_valueRead 84 = .ok (.getfield 36, 3) := dq_180 (a := 0) (b := 36) (fd_r fcX12_valueRead (by decide +kernel)) rfl
theorem dX12_valueRead_87 : decode cX12_valueRead 87 = .ok (.ifCond .le 5, 3) := dq_158 (a := 0) (b := 5) (fd_r fcX12_valueRead (by decide +kernel)) rfl
theorem dX12_valueRead_90 : decode cX12_valueRead 90 = .ok (.iconst 0, 1) := dq_3 (fd_r fcX12_valueRead (by decide +kernel))
theorem dX12_valueRead_91 : decode cX12_valueRead 91 = .ok (.ireturn, 1) := dq_172 (fd_r fcX12_valueRead (by decide +kernel))
theorem dX12_valueRead_92 : decode cX12_valueRead 92 = .ok (.aload_n 0, 1) := dq_42 (fd_r fcX12_valueRead (by decide +kernel))
theorem dX12_valueRead_93 : decode cX12_valueRead 93 = .ok (.getfield 69, 3) := dq_180 (a := 0) (b := 69) (fd_r fcX12_valueRead (by decide +kernel)) rfl
theorem dX12_valueRead_96 : decode cX12_valueRead 96 = .ok (.bipush 24, 2) := dq_16 (a := 24) (fd_r fcX12_valueRead (by decide +kernel)) rfl
theorem dX12_valueRead_98 : decode cX12_valueRead 98 = .ok (.aload_n 0, 1) := dq_42 (fd_r fcX12_valueRead (by decide +kernel))
theorem dX12_valueRead_99 : decode cX12_valueRead 99 = .ok (.getfield 51, 3) := dq_180 (a := 0) (b := 51) (fd_r fcX12_valueRead (by decide +kernel)) rfl
theorem dX12_valueRead_102 : decode cX12_valueRead 102 = .ok (.imul, 1) := dq_104 (fd_r fcX12_valueRead (by decide +kernel))
theorem dX12_valueRead_103 : decode cX12_valueRead 103 = .ok (.iload 4, 2) := dq_21 (a := 4) (fd_r fcX12_valueRead (by decide +kernel))
theorem dX12_valueRead_105 : decode cX12_valueRead 105 = .ok (.iadd, 1) := dq_96 (fd_r fcX12_valueRead (by decide +kernel))
theorem dX12_valueRead_106 : decode cX12_valueRead 106 = .ok (.iaload, 1) := dq_46 (fd_r fcX12_valueRead (by decide +kernel))
theorem dX12_valueRead_107 : decode cX12_valueRead 107 = .ok (.ifCond .ne 26, 3) := dq_154 (a := 0) (b := 26) (fd_r fcX12_valueRead (by decide +kernel)) rfl
theorem dX12_valueRead_110 : decode cX12_valueRead 110 = .ok (.aload_n 0, 1) := dq_42 (fd_r fcX12_valueRead (by decide +kernel))
theorem dX12_valueRead_111 : decode cX12_valueRead 111 = .ok (.aload_n 0, 1) := dq_42 (fd_r fcX12_valueRead (by decide +kernel))
theorem dX12_valueRead_112 : decode cX12_valueRead 112 = .ok (.getfield 75, 3) := dq_180 (a := 0) (b := 75) (fd_r fcX12_valueRead (by decide +kernel)) rfl
theorem dX12_valueRead_115 : decode cX12_valueRead 115 = .ok (.bipush 24, 2) := dq_16 (a := 24) (fd_r fcX12_valueRead (by decide +kernel)) rfl
theorem dX12_valueRead_117 : decode cX12_valueRead 117 = .ok (.aload_n 0, 1) := dq_42 (fd_r fcX12_valueRead (by decide +kernel))
theorem dX12_valueRead_118 : decode cX12_valueRead 118 = .ok (.getfield 51, 3) := dq_180 (a := 0) (b := 51) (fd_r fcX12_valueRead (by decide +kernel)) rfl
theorem dX12_valueRead_121 : decode cX12_valueRead 121 = .ok (.imul, 1) := dq_104 (fd_r fcX12_valueRead (by decide +kernel))
theorem dX12_valueRead_122 : decode cX12_valueRead 122 = .ok (.iload 4, 2) := dq_21 (a := 4) (fd_r fcX12_valueRead (by decide +kernel))
theorem dX12_valueRead_124 : decode cX12_valueRead 124 = .ok (.iadd, 1) := dq_96 (fd_r fcX12_valueRead (by decide +kernel))
theorem dX12_valueRead_125 : decode cX12_valueRead 125 = .ok (.iaload, 1) := dq_46 (fd_r fcX12_valueRead (by decide +kernel))
theorem dX12_valueRead_126 : decode cX12_valueRead 126 = .ok (.invokevirtual 519, 3) := dq_182 (a := 2) (b := 7) (fd_r fcX12_valueRead (by decide +kernel)) rfl
theorem dX12_valueRead_129 : decode cX12_valueRead 129 = .ok (.istore_n 3, 1) := dq_62 (fd_r fcX12_valueRead (by decide +kernel))
theorem dX12_valueRead_130 : decode cX12_valueRead 130 = .ok (.goto (-116), 3) := dq_167 (a := 255) (b := 140) (fd_r fcX12_valueRead (by decide +kernel)) rfl
theorem dX12_valueRead_133 : decode cX12_valueRead 133 = .ok (.aload_n 0, 1) := dq_42 (fd_r fcX12_valueRead (by decide +kernel))
theorem dX12_valueRead_134 : decode cX12_valueRead 134 = .ok (.bipush 40, 2) := dq_16 (a := 40) (fd_r fcX12_valueRead (by decide +kernel)) rfl
theorem dX12_valueRead_136 : decode cX12_valueRead 136 = .ok (.invokevirtual 413, 3) := dq_182 (a := 1) (b := 157) (fd_r fcX12_valueRead (by decide +kernel)) rfl
theorem dX12_valueRead_139 : decode cX12_valueRead 139 = .ok (.aload_n 0, 1) := dq_42 (fd_r fcX12_valueRead (by decide +kernel))
theorem dX12_valueRead_140 : decode cX12_valueRead 140 = .ok (.getfield 137, 3) := dq_180 (a := 0) (b := 137) (fd_r fcX12_valueRead (by decide +kernel)) rfl
theorem dX12_valueRead_143 : decode cX12_valueRead 143 = .ok (.aload_n 0, 1) := dq_42 (fd_r fcX12_valueRead (by decide +kernel))
theorem dX12_valueRead_144 : decode cX12_valueRead 144 = .ok (.getfield 143, 3) := dq_180 (a := 0) (b := 143) (fd_r fcX12_valueRead (by decide +kernel)) rfl
theorem dX12_valueRead_147 : decode cX12_valueRead 147 = .ok (.iload 4, 2) := dq_21 (a := 4) (fd_r fcX12_valueRead (by decide +kernel))
theorem dX12_valueRead_149 : decode cX12_valueRead 149 = .ok (.iastore, 1) := dq_79 (fd_r fcX12_valueRead (by decide +kernel))
theorem dX12_valueRead_150 : decode cX12_valueRead 150 = .ok (.aload_n 0, 1) := dq_42 (fd_r fcX12_valueRead (by decide +kernel))
theorem dX12_valueRead_151 : decode cX12_valueRead 151 = .ok (.getfield 140, 3) := dq_180 (a := 0) (b := 140) (fd_r fcX12_valueRead (by decide +kernel)) rfl
theorem dX12_valueRead_154 : decode cX12_valueRead 154 = .ok (.aload_n 0, 1) := dq_42 (fd_r fcX12_valueRead (by decide +kernel))
theorem dX12_valueRead_155 : decode cX12_valueRead 155 = .ok (.getfield 143, 3) := dq_180 (a := 0) (b := 143) (fd_r fcX12_valueRead (by decide +kernel)) rfl
theorem dX12_valueRead_158 : decode cX12_valueRead 158 = .ok (.iconst 0, 1) := dq_3 (fd_r fcX12_valueRead (by decide +kernel))
theorem dX12_valueRead_159 : decode cX12_valueRead 159 = .ok (.iastore, 1) := dq_79 (fd_r fcX12_valueRead (by decide +kernel))
theorem dX12_valueRead_160 : decode cX12_valueRead 160 = .ok (.aload_n 0, 1) := dq_42 (fd_r fcX12_valueRead (by decide +kernel))
theorem dX12_valueRead_161 : decode cX12_valueRead 161 = .ok (.getfield 134, 3) := dq_180 (a := 0) (b := 134) (fd_r fcX12_valueRead (by decide +kernel)) rfl
theorem dX12_valueRead_164 : decode cX12_valueRead 164 = .ok (.aload_n 0, 1) := dq_42 (fd_r fcX12_valueRead (by decide +kernel))
theorem dX12_valueRead_165 : decode cX12_valueRead 165 = .ok (.getfield 143, 3) := dq_180 (a := 0) (b := 143) (fd_r fcX12_valueRead (by decide +kernel)) rfl
theorem dX12_valueRead_168 : decode cX12_valueRead 168 = .ok (.iconst 0, 1) := dq_3 (fd_r fcX12_valueRead (by decide +kernel))
theorem dX12_valueRead_169 : decode cX12_valueRead 169 = .ok (.iastore, 1) := dq_79 (fd_r fcX12_valueRead (by decide +kernel))
theorem dX12_valueRead_170 : decode cX12_valueRead 170 = .ok (.aload_n 0, 1) := dq_42 (fd_r fcX12_valueRead (by decide +kernel))
theorem dX12_valueRead_171 : decode cX12_valueRead 171 = .ok (.aload_n 0, 1) := dq_42 (fd_r fcX12_valueRead (by decide +kernel))
theorem dX12_valueRead_172 : decode cX12_valueRead 172 = .ok (.getfield 72, 3) := dq_180 (a := 0) (b := 72) (fd_r fcX12_valueRead (by decide +kernel)) rfl
theorem dX12_valueRead_175 : decode cX12_valueRead 175 = .ok (.iconst 2, 1) := dq_5 (fd_r fcX12_valueRead (by decide +kernel))
theorem dX12_valueRead_176 : decode cX12_valueRead 176 = .ok (.bipush 24, 2) := dq_16 (a := 24) (fd_r fcX12_valueRead (by decide +kernel)) rfl
theorem dX12_valueRead_178 : decode cX12_valueRead 178 = .ok (.aload_n 0, 1) := dq_42 (fd_r fcX12_valueRead (by decide +kernel))
theorem dX12_valueRead_179 : decode cX12_valueRead 179 = .ok (.getfield 51, 3) := dq_180 (a := 0) (b := 51) (fd_r fcX12_valueRead (by decide +kernel)) rfl
theorem dX12_valueRead_182 : decode cX12_valueRead 182 = .ok (.imul, 1) := dq_104 (fd_r fcX12_valueRead (by decide +kernel))
theorem dX12_valueRead_183 : decode cX12_valueRead 183 = .ok (.iload 4, 2) := dq_21 (a := 4) (fd_r fcX12_valueRead (by decide +kernel))
theorem dX12_valueRead_185 : decode cX12_valueRead 185 = .ok (.iadd, 1) := dq_96 (fd_r fcX12_valueRead (by decide +kernel))
theorem dX12_valueRead_186 : decode cX12_valueRead 186 = .ok (.imul, 1) := dq_104 (fd_r fcX12_valueRead (by decide +kernel))
theorem dX12_valueRead_187 : decode cX12_valueRead 187 = .ok (.iaload, 1) := dq_46 (fd_r fcX12_valueRead (by decide +kernel))
theorem dX12_valueRead_188 : decode cX12_valueRead 188 = .ok (.invokevirtual 404, 3) := dq_182 (a := 1) (b := 148) (fd_r fcX12_valueRead (by decide +kernel)) rfl
theorem dX12_valueRead_191 : decode cX12_valueRead 191 = .ok (.goto (-177), 3) := dq_167 (a := 255) (b := 79) (fd_r fcX12_valueRead (by decide +kernel)) rfl
theorem dX12_valueRead_194 : decode cX12_valueRead 194 = .ok (.aload_n 0, 1) := dq_42 (fd_r fcX12_valueRead (by decide +kernel))
theorem dX12_valueRead_195 : decode cX12_valueRead 195 = .ok (.getfield 134, 3) := dq_180 (a := 0) (b := 134) (fd_r fcX12_valueRead (by decide +kernel)) rfl
theorem dX12_valueRead_198 : decode cX12_valueRead 198 = .ok (.iconst 0, 1) := dq_3 (fd_r fcX12_valueRead (by decide +kernel))
theorem dX12_valueRead_199 : decode cX12_valueRead 199 = .ok (.iaload, 1) := dq_46 (fd_r fcX12_valueRead (by decide +kernel))
theorem dX12_valueRead_200 : decode cX12_valueRead 200 = .ok (.ireturn, 1) := dq_172 (fd_r fcX12_valueRead (by decide +kernel))
theorem dX12_conRead_0 : decode cX12_conRead 0 = .ok (.aload_n 0, 1) := dq_42 (fd_r fcX12_conRead (by decide +kernel))
theorem dX12_conRead_1 : decode cX12_conRead 1 = .ok (.getfield 20, 3) := dq_180 (a := 0) (b := 20) (fd_r fcX12_conRead (by decide +kernel)) rfl
theorem dX12_conRead_4 : decode cX12_conRead 4 = .ok (.iconst 1, 1) := dq_4 (fd_r fcX12_conRead (by decide +kernel))
theorem dX12_conRead_5 : decode cX12_conRead 5 = .ok (.if_icmp .ne 14, 3) := dq_160 (a := 0) (b := 14) (fd_r fcX12_conRead (by decide +kernel)) rfl
theorem dX12_conRead_8 : decode cX12_conRead 8 = .ok (.aload_n 0, 1) := dq_42 (fd_r fcX12_conRead (by decide +kernel))
theorem dX12_conRead_9 : decode cX12_conRead 9 = .ok (.aload_n 0, 1) := dq_42 (fd_r fcX12_conRead (by decide +kernel))
theorem dX12_conRead_10 : decode cX12_conRead 10 = .ok (.getfield 32, 3) := dq_180 (a := 0) (b := 32) (fd_r fcX12_conRead (by decide +kernel)) rfl
theorem dX12_conRead_13 : decode cX12_conRead 13 = .ok (.invokevirtual 366, 3) := dq_182 (a := 1) (b := 110) (fd_r fcX12_conRead (by decide +kernel)) rfl
theorem dX12_conRead_16 : decode cX12_conRead 16 = .ok (.ifCond .eq 12, 3) := dq_153 (a := 0) (b := 12) (fd_r fcX12_conRead (by decide +kernel)) rfl
theorem dX12_conRead_19 : decode cX12_conRead 19 = .ok (.aload_n 0, 1) := dq_42 (fd_r fcX12_conRead (by decide +kernel))
theorem dX12_conRead_20 : decode cX12_conRead 20 = .ok (.iconst 1, 1) := dq_4 (fd_r fcX12_conRead (by decide +kernel))
theorem dX12_conRead_21 : decode cX12_conRead 21 = .ok (.aload_n 0, 1) := dq_42 (fd_r fcX12_conRead (by decide +kernel))
theorem dX12_conRead_22 : decode cX12_conRead 22 = .ok (.getfield 23, 3) := dq_180 (a := 0) (b := 23) (fd_r fcX12_conRead (by decide +kernel)) rfl
theorem dX12_conRead_25 : decode cX12_conRead 25 = .ok (.invokevirtual 320, 3) := dq_182 (a := 1) (b := 64) (fd_r fcX12_conRead (by decide +kernel)) rfl
theorem dX12_conRead_28 : decode cX12_conRead 28 = .ok (.aload_n 0, 1) := dq_42 (fd_r fcX12_conRead (by decide +kernel))
theorem dX12_conRead_29 : decode cX12_conRead 29 = .ok (.getfield 36, 3) := dq_180 (a := 0) (b := 36) (fd_r fcX12_conRead (by decide +kernel)) rfl
theorem dX12_conRead_32 : decode cX12_conRead 32 = .ok (.ifCond .le 7, 3) := dq_158 (a := 0) (b := 7) (fd_r fcX12_conRead (by decide +kernel)) rfl
theorem dX12_conRead_35 : decode cX12_conRead 35 = .ok (.iconst 0, 1) := dq_3 (fd_r fcX12_conRead (by decide +kernel))
theorem dX12_conRead_36 : decode cX12_conRead 36 = .ok (.goto 15, 3) := dq_167 (a := 0) (b := 15) (fd_r fcX12_conRead (by decide +kernel)) rfl
theorem dX12_conRead_39 : decode cX12_conRead 39 = .ok (.aload_n 0, 1) := dq_42 (fd_r fcX12_conRead (by decide +kernel))
theorem dX12_conRead_40 : decode cX12_conRead 40 = .ok (.aload_n 0, 1) := dq_42 (fd_r fcX12_conRead (by decide +kernel))
theorem dX12_conRead_41 : decode cX12_conRead 41 = .ok (.getfield 51, 3) := dq_180 (a := 0) (b := 51) (fd_r fcX12_conRead (by decide +kernel)) rfl
theorem dX12_conRead_44 : decode cX12_conRead 44 = .ok (.aload_n 0, 1) := dq_42 (fd_r fcX12_conRead (by decide +kernel))
theorem dX12_conRead_45 : decode cX12_conRead 45 = .ok (.getfield 32, 3) := dq_180 (a := 0) (b := 32) (fd_r fcX12_conRead (by decide +kernel)) rfl
theorem dX12_conRead_48 : decode cX12_conRead 48 = .ok (.invokevirtual 374, 3) := dq_182 (a := 1) (b := 118) (fd_r fcX12_conRead (by decide +kernel)) rfl
theorem dX12_conRead_51 : decode cX12_conRead 51 = .ok (.istore_n 2, 1) := dq_61 (fd_r fcX12_conRead (by decide +kernel))
theorem dX12_conRead_52 : decode cX12_conRead 52 = .ok (.aload_n 0, 1) := dq_42 (fd_r fcX12_conRead (by decide +kernel))
theorem dX12_conRead_53 : decode cX12_conRead 53 = .ok (.getfield 36, 3) := dq_180 (a := 0) (b := 36) (fd_r fcX12_conRead (by decide +kernel)) rfl
theorem dX12_conRead_56 : decode cX12_conRead 56 = .ok (.ifCond .ne 35, 3) := dq_154 (a := 0) (b := 35) (fd_r fcX12_conRead (by decide +kernel)) rfl
theorem dX12_conRead_59 : decode cX12_conRead 59 = .ok (.iload_n 2, 1) := dq_28 (fd_r fcX12_conRead (by decide +kernel))
theorem dX12_conRead_60 : decode cX12_conRead 60 = .ok (.iconst (-1), 1) := dq_2 (fd_r fcX12_conRead (by decide +kernel))
theorem dX12_conRead_61 : decode cX12_conRead 61 = .ok (.if_icmp .eq 21, 3) := dq_159 (a := 0) (b := 21) (fd_r fcX12_conRead (by decide +kernel)) rfl
theorem dX12_conRead_64 : decode cX12_conRead 64 = .ok (.aload_n 0, 1) := dq_42 (fd_r fcX12_conRead (by decide +kernel))
theorem dX12_conRead_65 : decode cX12_conRead 65 = .ok (.getfield 66, 3) := dq_180 (a := 0) (b := 66) (fd_r fcX12_conRead (by decide +kernel)) rfl
theorem dX12_conRead_68 : decode cX12_conRead 68 = .ok (.bipush 24, 2) := dq_16 (a := 24) (fd_r fcX12_conRead (by decide +kernel)) rfl
theorem dX12_conRead_70 : decode cX12_conRead 70 = .ok (.aload_n 0, 1) := dq_42 (fd_r fcX12_conRead (by decide +kernel))
theorem dX12_conRead_71 : decode cX12_conRead 71 = .ok (.getfield 51, 3) := dq_180 (a := 0) (b := 51) (fd_r fcX12_conRead (by decide +kernel)) rfl
theorem dX12_conRead_74 : decode cX12_conRead 74 = .ok (.imul, 1) := dq_104 (fd_r fcX12_conRead (by decide +kernel))
theorem dX12_conRead_75 : decode cX12_conRead 75 = .ok (.iload_n 2, 1) := dq_28 (fd_r fcX12_conRead (by decide +kernel))
theorem dX12_conRead_76 : decode cX12_conRead 76 = .ok (.iadd, 1) := dq_96 (fd_r fcX12_conRead (by decide +kernel))
theorem dX12_conRead_77 : decode cX12_conRead 77 = .ok (.iaload, 1) := dq_46 (fd_r fcX12_conRead (by decide +kernel))
theorem dX12_conRead_78 : decode cX12_conRead 78 = .ok (.iload_n 1, 1) := dq_27 (fd_r fcX12_conRead (by decide +kernel))
theorem dX12_conRead_79 : decode cX12_conRead 79 = .ok (.if_icmp .eq 12, 3) := dq_159 (a := 0) (b := 12) (fd_r fcX12_conRead (by decide +kernel)) rfl
theorem dX12_conRead_82 : decode cX12_conRead 82 = .ok (.aload_n 0, 1) := dq_42 (fd_r fcX12_conRead (by decide +kernel))
theorem dX12_conRead_83 : decode cX12_conRead 83 = .ok (.iconst 3, 1) := dq_6 (fd_r fcX12_conRead (by decide +kernel))
theorem dX12_conRead_84 : decode cX12_conRead 84 = .ok (.aload_n 0, 1) := dq_42 (fd_r fcX12_conRead (by decide +kernel))
theorem dX12_conRead_85 : decode cX12_conRead 85 = .ok (.getfield 23, 3) := dq_180 (a := 0) (b := 23) (fd_r fcX12_conRead (by decide +kernel)) rfl
theorem dX12_conRead_88 : decode cX12_conRead 88 = .ok (.invokevirtual 320, 3) := dq_182 (a := 1) (b := 64) (fd_r fcX12_conRead (by decide +kernel)) rfl
theorem dX12_conRead_91 : decode cX12_conRead 91 = .ok (.aload_n 0, 1) := dq_42 (fd_r fcX12_conRead (by decide +kernel))
theorem dX12_conRead_92 : decode cX12_conRead 92 = .ok (.getfield 36, 3) := dq_180 (a := 0) (b := 36) (fd_r fcX12_conRead (by decide +kernel)) rfl
theorem dX12_conRead_95 : decode cX12_conRead 95 = .ok (.ifCond .ne 7, 3) := dq_154 (a := 0) (b := 7) (fd_r fcX12_conRead (by decide +kernel)) rfl
theorem dX12_conRead_98 : decode cX12_conRead 98 = .ok (.aload_n 0, 1) := dq_42 (fd_r fcX12_conRead (by decide +kernel))
theorem dX12_conRead_99 : decode cX12_conRead 99 = .ok (.invokevirtual 337, 3) := dq_182 (a := 1) (b := 81) (fd_r fcX12_conRead (by decide +kernel)) rfl
theorem dX12_conRead_102 : decode cX12_conRead 102 = .ok (.aload_n 0, 1) := dq_42 (fd_r fcX12_conRead (by decide +kernel))
theorem dX12_conRead_103 : decode cX12_conRead 103 = .ok (.getfield 36, 3) := dq_180 (a := 0) (b := 36) (fd_r fcX12_conRead (by decide +kernel)) rfl
theorem dX12_conRead_106 : decode cX12_conRead 106 = .ok (.ifCond .le 7, 3) := dq_158 (a := 0) (b := 7) (fd_r fcX12_conRead (by decide +kernel)) rfl
theorem dX12_conRead_109 : decode cX12_conRead 109 = .ok (.iconst 0, 1) := dq_3 (fd_r fcX12_conRead (by decide +kernel))
theorem dX12_conRead_110 : decode cX12_conRead 110 = .ok (.goto 4, 3) := dq_167 (a := 0) (b := 4) (fd_r fcX12_conRead (by decide +kernel)) rfl
theorem dX12_conRead_113 : decode cX12_conRead 113 = .ok (.iload_n 2, 1) := dq_28 (fd_r fcX12_conRead (by decide +kernel))
theorem dX12_conRead_114 : decode cX12_conRead 114 = .ok (.ireturn, 1) := dq_172 (fd_r fcX12_conRead (by decide +kernel))
theorem dX12_isMoreOf_0 : decode cX12_isMoreOf 0 = .ok (.iload_n 1, 1) := dq_27 (fd_r fcX12_isMoreOf (by decide +kernel))
theorem dX12_isMoreOf_1 : decode cX12_isMoreOf 1 = .ok (.istore_n 2, 1) := dq_61 (fd_r fcX12_isMoreOf (by decide +kernel))
theorem dX12_isMoreOf_2 : decode cX12_isMoreOf 2 = .ok (.aload_n 0, 1) := dq_42 (fd_r fcX12_isMoreOf (by decide +kernel))
theorem dX12_isMoreOf_3 : decode cX12_isMoreOf 3 = .ok (.getfield 36, 3) := dq_180 (a := 0) (b := 36) (fd_r fcX12_isMoreOf (by decide +kernel)) rfl
theorem dX12_isMoreOf_6 : decode cX12_isMoreOf 6 = .ok (.ifCond .ne 175, 3) := dq_154 (a := 0) (b := 175) (fd_r fcX12_isMoreOf (by decide +kernel)) rfl
theorem dX12_isMoreOf_9 : decode cX12_isMoreOf 9 = .ok (.aload_n 0, 1) := dq_42 (fd_r fcX12_isMoreOf (by decide +kernel))
theorem dX12_isMoreOf_10 : decode cX12_isMoreOf 10 = .ok (.dup, 1) := dq_89 (fd_r fcX12_isMoreOf (by decide +kernel))
theorem dX12_isMoreOf_11 : decode cX12_isMoreOf 11 = .ok (.getfield 143, 3) := dq_180 (a := 0) (b := 143) (fd_r fcX12_isMoreOf (by decide +kernel)) rfl
theorem dX12_isMoreOf_14 : decode cX12_isMoreOf 14 = .ok (.iconst 1, 1) := dq_4 (fd_r fcX12_isMoreOf (by decide +kernel))
theorem dX12_isMoreOf_15 : decode cX12_isMoreOf 15 = .ok (.isub, 1) := dq_100 (fd_r fcX12_isMoreOf (by decide +kernel))
theorem dX12_isMoreOf_16 : decode cX12_isMoreOf 16 = .ok (.putfield 143, 3) := dq_181 (a := 0) (b := 143) (fd_r fcX12_isMoreOf (by decide +kernel)) rfl
theorem dX12_isMoreOf_19 : decode cX12_isMoreOf 19 = .ok (.aload_n 0, 1) := dq_42 (fd_r fcX12_isMoreOf (by decide +kernel))
theorem dX12_isMoreOf_20 : decode cX12_isMoreOf 20 = .ok (.getfield 143, 3) := dq_180 (a := 0) (b := 143) (fd_r fcX12_isMoreOf (by decide +kernel)) rfl
theorem dX12_isMoreOf_23 : decode cX12_isMoreOf 23 = .ok (.ifCond .ne 12, 3) := dq_154 (a := 0) (b := 12) (fd_r fcX12_isMoreOf (by decide +kernel)) rfl
theorem dX12_isMoreOf_26 : decode cX12_isMoreOf 26 = .ok (.aload_n 0, 1) := dq_42 (fd_r fcX12_isMoreOf (by decide +kernel))
theorem dX12_isMoreOf_27 : decode cX12_isMoreOf 27 = .ok (.getfield 134, 3) := dq_180 (a := 0) (b := 134) (fd_r fcX12_isMoreOf (by decide +kernel)) rfl
theorem dX12_isMoreOf_30 : decode cX12_isMoreOf 30 = .ok (.iconst 0, 1) := dq_3 (fd_r fcX12_isMoreOf (by decide +kernel))
theorem dX12_isMoreOf_31 : decode cX12_isMoreOf 31 = .ok (.iload_n 2, 1) := dq_28 (fd_r fcX12_isMoreOf (by decide +kernel))
theorem dX12_isMoreOf_32 : decode cX12_isMoreOf 32 = .ok (.iastore, 1) := dq_79 (fd_r fcX12_isMoreOf (by decide +kernel))
theorem dX12_isMoreOf_33 : decode cX12_isMoreOf 33 = .ok (.iconst 0, 1) := dq_3 (fd_r fcX12_isMoreOf (by decide +kernel))
theorem dX12_isMoreOf_34 : decode cX12_isMoreOf 34 = .ok (.ireturn, 1) := dq_172 (fd_r fcX12_isMoreOf (by decide +kernel))
theorem dX12_isMoreOf_35 : decode cX12_isMoreOf 35 = .ok (.bipush 24, 2) := dq_16 (a := 24) (fd_r fcX12_isMoreOf (by decide +kernel)) rfl
theorem dX12_isMoreOf_37 : decode cX12_isMoreOf 37 = .ok (.aload_n 0, 1) := dq_42 (fd_r fcX12_isMoreOf (by decide +kernel))
theorem dX12_isMoreOf_38 : decode cX12_isMoreOf 38 = .ok (.getfield 51, 3) := dq_180 (a := 0) (b := 51) (fd_r fcX12_isMoreOf (by decide +kernel)) rfl
theorem dX12_isMoreOf_41 : decode cX12_isMoreOf 41 = .ok (.imul, 1) := dq_104 (fd_r fcX12_isMoreOf (by decide +kernel))
theorem dX12_isMoreOf_42 : decode cX12_isMoreOf 42 = .ok (.aload_n 0, 1) := dq_42 (fd_r fcX12_isMoreOf (by decide +kernel))
theorem dX12_isMoreOf_43 : decode cX12_isMoreOf 43 = .ok (.getfield 137, 3) := dq_180 (a := 0) (b := 137) (fd_r fcX12_isMoreOf (by decide +kernel)) rfl
theorem dX12_isMoreOf_46 : decode cX12_isMoreOf 46 = .ok (.aload_n 0, 1) := dq_42 (fd_r fcX12_isMoreOf (by decide +kernel))
theorem dX12_isMoreOf_47 : decode cX12_isMoreOf 47 = .ok (.getfield 143, 3) := dq_180 (a := 0) (b := 143) (fd_r fcX12_isMoreOf (by decide +kernel)) rfl
theorem dX12_isMoreOf_50 : decode cX12_isMoreOf 50 = .ok (.iaload, 1) := dq_46 (fd_r fcX12_isMoreOf (by decide +kernel))
theorem dX12_isMoreOf_51 : decode cX12_isMoreOf 51 = .ok (.iadd, 1) := dq_96 (fd_r fcX12_isMoreOf (by decide +kernel))
theorem dX12_isMoreOf_52 : decode cX12_isMoreOf 52 = .ok (.istore_n 3, 1) := dq_62 (fd_r fcX12_isMoreOf (by decide +kernel))
theorem dX12_isMoreOf_53 : decode cX12_isMoreOf 53 = .ok (.aload_n 0, 1) := dq_42 (fd_r fcX12_isMoreOf (by decide +kernel))
theorem dX12_isMoreOf_54 : decode cX12_isMoreOf 54 = .ok (.getfield 140, 3) := dq_180 (a := 0) (b := 140) (fd_r fcX12_isMoreOf (by decide +kernel)) rfl
theorem dX12_isMoreOf_57 : decode cX12_isMoreOf 57 = .ok (.aload_n 0, 1) := dq_42 (fd_r fcX12_isMoreOf (by decide +kernel))
theorem dX12_isMoreOf_58 : decode cX12_isMoreOf 58 = .ok (.getfield 143, 3) := dq_180 (a := 0) (b := 143) (fd_r fcX12_isMoreOf (by decide +kernel)) rfl
theorem dX12_isMoreOf_61 : decode cX12_isMoreOf 61 = .ok (.iaload, 1) := dq_46 (fd_r fcX12_isMoreOf (by decide +kernel))
theorem dX12_isMoreOf_62 : decode cX12_isMoreOf 62 = .ok (.istore 4, 2) := dq_54 (a := 4) (fd_r fcX12_isMoreOf (by decide +kernel))
theorem dX12_isMoreOf_64 : decode cX12_isMoreOf 64 = .ok (.aload_n 0, 1) := dq_42 (fd_r fcX12_isMoreOf (by decide +kernel))
theorem dX12_isMoreOf_65 : decode cX12_isMoreOf 65 = .ok (.getfield 134, 3) := dq_180 (a := 0) (b := 134) (fd_r fcX12_isMoreOf (by decide +kernel)) rfl
theorem dX12_isMoreOf_68 : decode cX12_isMoreOf 68 = .ok (.aload_n 0, 1) := dq_42 (fd_r fcX12_isMoreOf (by decide +kernel))
theorem dX12_isMoreOf_69 : decode cX12_isMoreOf 69 = .ok (.getfield 143, 3) := dq_180 (a := 0) (b := 143) (fd_r fcX12_isMoreOf (by decide +kernel)) rfl
theorem dX12_isMoreOf_72 : decode cX12_isMoreOf 72 = .ok (.aload_n 0, 1) := dq_42 (fd_r fcX12_isMoreOf (by decide +kernel))
theorem dX12_isMoreOf_73 : decode cX12_isMoreOf 73 = .ok (.getfield 134, 3) := dq_180 (a := 0) (b := 134) (fd_r fcX12_isMoreOf (by decide +kernel)) rfl
theorem dX12_isMoreOf_76 : decode cX12_isMoreOf 76 = .ok (.aload_n 0, 1) := dq_42 (fd_r fcX12_isMoreOf (by decide +kernel))
theorem dX12_isMoreOf_77 : decode cX12_isMoreOf 77 = .ok (.getfield 143, 3) := dq_180 (a := 0) (b := 143) (fd_r fcX12_isMoreOf (by decide +kernel)) rfl
theorem dX12_isMoreOf_80 : decode cX12_isMoreOf 80 = .ok (.iaload, 1) := dq_46 (fd_r fcX12_isMoreOf (by decide +kernel))
theorem dX12_isMoreOf_81 : decode cX12_isMoreOf 81 = .ok (.aload_n 0, 1) := dq_42 (fd_r fcX12_isMoreOf (by decide +kernel))
theorem dX12_isMoreOf_82 : decode cX12_isMoreOf 82 = .ok (.aload_n 0, 1) := dq_42 (fd_r fcX12_isMoreOf (by decide +kernel))
theorem dX12_isMoreOf_83 : decode cX12_isMoreOf 83 = .ok (.getfield 51, 3) := dq_180 (a := 0) (b := 51) (fd_r fcX12_isMoreOf (by decide +kernel)) rfl
theorem dX12_isMoreOf_86 : decode cX12_isMoreOf 86 = .ok (.aload_n 0, 1) := dq_42 (fd_r fcX12_isMoreOf (by decide +kernel))
theorem dX12_isMoreOf_87 : decode cX12_isMoreOf 87 = .ok (.getfield 72, 3) := dq_180 (a := 0) (b := 72) (fd_r fcX12_isMoreOf (by decide +kernel)) rfl
theorem dX12_isMoreOf_90 : decode cX12_isMoreOf 90 = .ok (.iconst 2, 1) := dq_5 (fd_r fcX12_isMoreOf (by decide +kernel))
theorem dX12_isMoreOf_91 : decode cX12_isMoreOf 91 = .ok (.iload_n 3, 1) := dq_29 (fd_r fcX12_isMoreOf (by decide +kernel))
theorem dX12_isMoreOf_92 : decode cX12_isMoreOf 92 = .ok (.imul, 1) := dq_104 (fd_r fcX12_isMoreOf (by decide +kernel))
theorem dX12_isMoreOf_93 : decode cX12_isMoreOf 93 = .ok (.iload 4, 2) := dq_21 (a := 4) (fd_r fcX12_isMoreOf (by decide +kernel))
theorem dX12_isMoreOf_95 : decode cX12_isMoreOf 95 = .ok (.iadd, 1) := dq_96 (fd_r fcX12_isMoreOf (by decide +kernel))
theorem dX12_isMoreOf_96 : decode cX12_isMoreOf 96 = .ok (.iaload, 1) := dq_46 (fd_r fcX12_isMoreOf (by decide +kernel))
theorem dX12_isMoreOf_97 : decode cX12_isMoreOf 97 = .ok (.invokevirtual 396, 3) := dq_182 (a := 1) (b := 140) (fd_r fcX12_isMoreOf (by decide +kernel)) rfl
theorem dX12_isMoreOf_100 : decode cX12_isMoreOf 100 = .ok (.imul, 1) := dq_104 (fd_r fcX12_isMoreOf (by decide +kernel))
theorem dX12_isMoreOf_101 : decode cX12_isMoreOf 101 = .ok (.iload_n 2, 1) := dq_28 (fd_r fcX12_isMoreOf (by decide +kernel))
theorem dX12_isMoreOf_102 : decode cX12_isMoreOf 102 = .ok (.iadd, 1) := dq_96 (fd_r fcX12_isMoreOf (by decide +kernel))
theorem dX12_isMoreOf_103 : decode cX12_isMoreOf 103 = .ok (.iastore, 1) := dq_79 (fd_r fcX12_isMoreOf (by decide +kernel))
theorem dX12_isMoreOf_104 : decode cX12_isMoreOf 104 = .ok (.iload 4, 2) := dq_21 (a := 4) (fd_r fcX12_isMoreOf (by decide +kernel))
theorem dX12_isMoreOf_106 : decode cX12_isMoreOf 106 = .ok (.iconst 1, 1) := dq_4 (fd_r fcX12_isMoreOf (by decide +kernel))
theorem dX12_isMoreOf_107 : decode cX12_isMoreOf 107 = .ok (.iadd, 1) := dq_96 (fd_r fcX12_isMoreOf (by decide +kernel))
theorem dX12_isMoreOf_108 : decode cX12_isMoreOf 108 = .ok (.aload_n 0, 1) := dq_42 (fd_r fcX12_isMoreOf (by decide +kernel))
theorem dX12_isMoreOf_109 : decode cX12_isMoreOf 109 = .ok (.getfield 69, 3) := dq_180 (a := 0) (b := 69) (fd_r fcX12_isMoreOf (by decide +kernel)) rfl
theorem dX12_isMoreOf_112 : decode cX12_isMoreOf 112 = .ok (.iload_n 3, 1) := dq_29 (fd_r fcX12_isMoreOf (by decide +kernel))
theorem dX12_isMoreOf_113 : decode cX12_isMoreOf 113 = .ok (.iaload, 1) := dq_46 (fd_r fcX12_isMoreOf (by decide +kernel))
theorem dX12_isMoreOf_114 : decode cX12_isMoreOf 114 = .ok (.if_icmp .ge 41, 3) := dq_162 (a := 0) (b := 41) (fd_r fcX12_isMoreOf (by decide +kernel)) rfl
theorem dX12_isMoreOf_117 : decode cX12_isMoreOf 117 = .ok (.aload_n 0, 1) := dq_42 (fd_r fcX12_isMoreOf (by decide +kernel))
theorem dX12_isMoreOf_118 : decode cX12_isMoreOf 118 = .ok (.bipush 44, 2) := dq_16 (a := 44) (fd_r fcX12_isMoreOf (by decide +kernel)) rfl
theorem dX12_isMoreOf_120 : decode cX12_isMoreOf 120 = .ok (.invokevirtual 413, 3) := dq_182 (a := 1) (b := 157) (fd_r fcX12_isMoreOf (by decide +kernel)) rfl
theorem dX12_isMoreOf_123 : decode cX12_isMoreOf 123 = .ok (.aload_n 0, 1) := dq_42 (fd_r fcX12_isMoreOf (by decide +kernel))
theorem dX12_isMoreOf_124 : decode cX12_isMoreOf 124 = .ok (.getfield 140, 3) := dq_180 (a := 0) (b := 140) (fd_r fcX12_isMoreOf (by decide +kernel)) rfl
theorem dX12_isMoreOf_127 : decode cX12_isMoreOf 127 = .ok (.aload_n 0, 1) := dq_42 (fd_r fcX12_isMoreOf (by decide +kernel))
theorem dX12_isMoreOf_128 : decode cX12_isMoreOf 128 = .ok (.getfield 143, 3) := dq_180 (a := 0) (b := 143) (fd_r fcX12_isMoreOf (by decide +kernel)) rfl
theorem dX12_isMoreOf_131 : decode cX12_isMoreOf 131 = .ok (.iload 4, 2) := dq_21 (a := 4) (fd_r fcX12_isMoreOf (by decide +kernel))
theorem dX12_isMoreOf_133 : decode cX12_isMoreOf 133 = .ok (.iconst 1, 1) := dq_4 (fd_r fcX12_isMoreOf (by decide +kernel))
theorem dX12_isMoreOf_134 : decode cX12_isMoreOf 134 = .ok (.iadd, 1) := dq_96 (fd_r fcX12_isMoreOf (by decide +kernel))
theorem dX12_isMoreOf_135 : decode cX12_isMoreOf 135 = .ok (.iastore, 1) := dq_79 (fd_r fcX12_isMoreOf (by decide +kernel))
theorem dX12_isMoreOf_136 : decode cX12_isMoreOf 136 = .ok (.aload_n 0, 1) := dq_42 (fd_r fcX12_isMoreOf (by decide +kernel))
theorem dX12_isMoreOf_137 : decode cX12_isMoreOf 137 = .ok (.aload_n 0, 1) := dq_42 (fd_r fcX12_isMoreOf (by decide +kernel))
theorem dX12_isMoreOf_138 : decode cX12_isMoreOf 138 = .ok (.getfield 72, 3) := dq_180 (a := 0) (b := 72) (fd_r fcX12_isMoreOf (by decide +kernel)) rfl
theorem dX12_isMoreOf_141 : decode cX12_isMoreOf 141 = .ok (.iconst 2, 1) := dq_5 (fd_r fcX12_isMoreOf (by decide +kernel))
theorem dX12_isMoreOf_142 : decode cX12_isMoreOf 142 = .ok (.iload_n 3, 1) := dq_29 (fd_r fcX12_isMoreOf (by decide +kernel))
theorem dX12_isMoreOf_143 : decode cX12_isMoreOf 143 = .ok (.imul, 1) := dq_104 (fd_r fcX12_isMoreOf (by decide +kernel))
theorem dX12_isMoreOf_144 : decode cX12_isMoreOf 144 = .ok (.iload 4, 2) := dq_21 (a := 4) (fd_r fcX12_isMoreOf (by decide +kernel))
theorem dX12_isMoreOf_146 : decode cX12_isMoreOf 146 = .ok (.iadd, 1) := dq_96 (fd_r fcX12_isMoreOf (by decide +kernel))
theorem dX12_isMoreOf_147 : decode cX12_isMoreOf 147 = .ok (.iconst 1, 1) := dq_4 (fd_r fcX12_isMoreOf (by decide +kernel))
theorem dX12_isMoreOf_148 : decode cX12_isMoreOf 148 = .ok (.iadd, 1) := dq_96 (fd_r fcX12_isMoreOf (by decide +kernel))
theorem dX12_isMoreOf_149 : decode cX12_isMoreOf 149 = .ok (.iaload, 1) := dq_46 (fd_r fcX12_isMoreOf (by decide +kernel))
theorem dX12_isMoreOf_150 : decode cX12_isMoreOf 150 = .ok (.invokevirtual 404, 3) := dq_182 (a := 1) (b := 148) (fd_r fcX12_isMoreOf (by decide +kernel)) rfl
theorem dX12_isMoreOf_153 : decode cX12_isMoreOf 153 = .ok (.iconst 1, 1) := dq_4 (fd_r fcX12_isMoreOf (by decide +kernel))
theorem dX12_isMoreOf_154 : decode cX12_isMoreOf 154 = .ok (.ireturn, 1) := dq_172 (fd_r fcX12_isMoreOf (by decide +kernel))
theorem dX12_isMoreOf_155 : decode cX12_isMoreOf 155 = .ok (.aload_n 0, 1) := dq_42 (fd_r fcX12_isMoreOf (by decide +kernel))
theorem dX12_isMoreOf_156 : decode cX12_isMoreOf 156 = .ok (.bipush 41, 2) := dq_16 (a := 41) (fd_r fcX12_isMoreOf (by decide +kernel)) rfl
theorem dX12_isMoreOf_158 : decode cX12_isMoreOf 158 = .ok (.invokevirtual 413, 3) := dq_182 (a := 1) (b := 157) (fd_r fcX12_isMoreOf (by decide +kernel)) rfl
theorem dX12_isMoreOf_161 : decode cX12_isMoreOf 161 = .ok (.aload_n 0, 1) := dq_42 (fd_r fcX12_isMoreOf (by decide +kernel))
theorem dX12_isMoreOf_162 : decode cX12_isMoreOf 162 = .ok (.getfield 75, 3) := dq_180 (a := 0) (b := 75) (fd_r fcX12_isMoreOf (by decide +kernel)) rfl
theorem dX12_isMoreOf_165 : decode cX12_isMoreOf 165 = .ok (.iload_n 3, 1) := dq_29 (fd_r fcX12_isMoreOf (by decide +kernel))
theorem dX12_isMoreOf_166 : decode cX12_isMoreOf 166 = .ok (.iaload, 1) := dq_46 (fd_r fcX12_isMoreOf (by decide +kernel))
theorem dX12_isMoreOf_167 : decode cX12_isMoreOf 167 = .ok (.aload_n 0, 1) := dq_42 (fd_r fcX12_isMoreOf (by decide +kernel))
theorem dX12_isMoreOf_168 : decode cX12_isMoreOf 168 = .ok (.getfield 134, 3) := dq_180 (a := 0) (b := 134) (fd_r fcX12_isMoreOf (by decide +kernel)) rfl
theorem dX12_isMoreOf_171 : decode cX12_isMoreOf 171 = .ok (.aload_n 0, 1) := dq_42 (fd_r fcX12_isMoreOf (by decide +kernel))
theorem dX12_isMoreOf_172 : decode cX12_isMoreOf 172 = .ok (.getfield 143, 3) := dq_180 (a := 0) (b := 143) (fd_r fcX12_isMoreOf (by decide +kernel)) rfl
theorem dX12_isMoreOf_175 : decode cX12_isMoreOf 175 = .ok (.iaload, 1) := dq_46 (fd_r fcX12_isMoreOf (by decide +kernel))
end
section
theorem dX12_isMoreOf_176 : decode cX12_isMoreOf 176 = .ok (.iadd, 1) := dq_96 (fd_r fcX12_isMoreOf (by decide +kernel))
theorem dX12_isMoreOf_177 : decode cX12_isMoreOf 177 = .ok (.istore_n 2, 1) := dq_61 (fd_r fcX12_isMoreOf (by decide +kernel))
theorem dX12_isMoreOf_178 : decode cX12_isMoreOf 178 = .ok (.goto (-176), 3) := dq_167 (a := 255) (b := 80) (fd_r fcX12_isMoreOf (by decide +kernel)) rfl
theorem dX12_isMoreOf_181 : decode cX12_isMoreOf 181 = .ok (.iconst 0, 1) := dq_3 (fd_r fcX12_isMoreOf (by decide +kernel))
theorem dX12_isMoreOf_182 : decode cX12_isMoreOf 182 = .ok (.ireturn, 1) := dq_172 (fd_r fcX12_isMoreOf (by decide +kernel))
theorem dX12_row_0 : decode cX12_row 0 = .ok (.aload_n 0, 1) := dq_42 (fd_r fcX12_row (by decide +kernel))
theorem dX12_row_1 : decode cX12_row 1 = .ok (.aload_n 0, 1) := dq_42 (fd_r fcX12_row (by decide +kernel))
theorem dX12_row_2 : decode cX12_row 2 = .ok (.getfield 13, 3) := dq_180 (a := 0) (b := 13) (fd_r fcX12_row (by decide +kernel)) rfl
theorem dX12_row_5 : decode cX12_row 5 = .ok (.putfield 17, 3) := dq_181 (a := 0) (b := 17) (fd_r fcX12_row (by decide +kernel)) rfl
theorem dX12_row_8 : decode cX12_row 8 = .ok (.aload_n 0, 1) := dq_42 (fd_r fcX12_row (by decide +kernel))
theorem dX12_row_9 : decode cX12_row 9 = .ok (.iconst 0, 1) := dq_3 (fd_r fcX12_row (by decide +kernel))
theorem dX12_row_10 : decode cX12_row 10 = .ok (.putfield 13, 3) := dq_181 (a := 0) (b := 13) (fd_r fcX12_row (by decide +kernel)) rfl
theorem dX12_row_13 : decode cX12_row 13 = .ok (.aload_n 0, 1) := dq_42 (fd_r fcX12_row (by decide +kernel))
theorem dX12_row_14 : decode cX12_row 14 = .ok (.iconst 0, 1) := dq_3 (fd_r fcX12_row (by decide +kernel))
theorem dX12_row_15 : decode cX12_row 15 = .ok (.putfield 26, 3) := dq_181 (a := 0) (b := 26) (fd_r fcX12_row (by decide +kernel)) rfl
theorem dX12_row_18 : decode cX12_row 18 = .ok (.aload_n 0, 1) := dq_42 (fd_r fcX12_row (by decide +kernel))
theorem dX12_row_19 : decode cX12_row 19 = .ok (.iconst 0, 1) := dq_3 (fd_r fcX12_row (by decide +kernel))
theorem dX12_row_20 : decode cX12_row 20 = .ok (.putfield 36, 3) := dq_181 (a := 0) (b := 36) (fd_r fcX12_row (by decide +kernel)) rfl
theorem dX12_row_23 : decode cX12_row 23 = .ok (.aload_n 0, 1) := dq_42 (fd_r fcX12_row (by decide +kernel))
theorem dX12_row_24 : decode cX12_row 24 = .ok (.iconst (-1), 1) := dq_2 (fd_r fcX12_row (by decide +kernel))
theorem dX12_row_25 : decode cX12_row 25 = .ok (.putfield 39, 3) := dq_181 (a := 0) (b := 39) (fd_r fcX12_row (by decide +kernel)) rfl
theorem dX12_row_28 : decode cX12_row 28 = .ok (.iconst 0, 1) := dq_3 (fd_r fcX12_row (by decide +kernel))
theorem dX12_row_29 : decode cX12_row 29 = .ok (.istore_n 1, 1) := dq_60 (fd_r fcX12_row (by decide +kernel))
theorem dX12_row_30 : decode cX12_row 30 = .ok (.aload_n 0, 1) := dq_42 (fd_r fcX12_row (by decide +kernel))
theorem dX12_row_31 : decode cX12_row 31 = .ok (.getfield 146, 3) := dq_180 (a := 0) (b := 146) (fd_r fcX12_row (by decide +kernel)) rfl
theorem dX12_row_34 : decode cX12_row 34 = .ok (.ifCond .ne 9, 3) := dq_154 (a := 0) (b := 9) (fd_r fcX12_row (by decide +kernel)) rfl
theorem dX12_row_37 : decode cX12_row 37 = .ok (.aload_n 0, 1) := dq_42 (fd_r fcX12_row (by decide +kernel))
theorem dX12_row_38 : decode cX12_row 38 = .ok (.iconst 1, 1) := dq_4 (fd_r fcX12_row (by decide +kernel))
theorem dX12_row_39 : decode cX12_row 39 = .ok (.iconst 0, 1) := dq_3 (fd_r fcX12_row (by decide +kernel))
theorem dX12_row_40 : decode cX12_row 40 = .ok (.invokevirtual 320, 3) := dq_182 (a := 1) (b := 64) (fd_r fcX12_row (by decide +kernel)) rfl
theorem dX12_row_43 : decode cX12_row 43 = .ok (.aload_n 0, 1) := dq_42 (fd_r fcX12_row (by decide +kernel))
theorem dX12_row_44 : decode cX12_row 44 = .ok (.getfield 36, 3) := dq_180 (a := 0) (b := 36) (fd_r fcX12_row (by decide +kernel)) rfl
theorem dX12_row_47 : decode cX12_row 47 = .ok (.ifCond .ne 7, 3) := dq_154 (a := 0) (b := 7) (fd_r fcX12_row (by decide +kernel)) rfl
theorem dX12_row_50 : decode cX12_row 50 = .ok (.aload_n 0, 1) := dq_42 (fd_r fcX12_row (by decide +kernel))
theorem dX12_row_51 : decode cX12_row 51 = .ok (.invokevirtual 337, 3) := dq_182 (a := 1) (b := 81) (fd_r fcX12_row (by decide +kernel)) rfl
theorem dX12_row_54 : decode cX12_row 54 = .ok (.iconst 0, 1) := dq_3 (fd_r fcX12_row (by decide +kernel))
theorem dX12_row_55 : decode cX12_row 55 = .ok (.istore_n 2, 1) := dq_61 (fd_r fcX12_row (by decide +kernel))
theorem dX12_row_56 : decode cX12_row 56 = .ok (.iload_n 2, 1) := dq_28 (fd_r fcX12_row (by decide +kernel))
theorem dX12_row_57 : decode cX12_row 57 = .ok (.aload_n 0, 1) := dq_42 (fd_r fcX12_row (by decide +kernel))
theorem dX12_row_58 : decode cX12_row 58 = .ok (.invokevirtual 459, 3) := dq_182 (a := 1) (b := 203) (fd_r fcX12_row (by decide +kernel)) rfl
theorem dX12_row_61 : decode cX12_row 61 = .ok (.if_icmp .ge 67, 3) := dq_162 (a := 0) (b := 67) (fd_r fcX12_row (by decide +kernel)) rfl
theorem dX12_row_64 : decode cX12_row 64 = .ok (.aload_n 0, 1) := dq_42 (fd_r fcX12_row (by decide +kernel))
theorem dX12_row_65 : decode cX12_row 65 = .ok (.getfield 36, 3) := dq_180 (a := 0) (b := 36) (fd_r fcX12_row (by decide +kernel)) rfl
theorem dX12_row_68 : decode cX12_row 68 = .ok (.ifCond .ne 60, 3) := dq_154 (a := 0) (b := 60) (fd_r fcX12_row (by decide +kernel)) rfl
theorem dX12_row_71 : decode cX12_row 71 = .ok (.iload_n 2, 1) := dq_28 (fd_r fcX12_row (by decide +kernel))
theorem dX12_row_72 : decode cX12_row 72 = .ok (.ifCond .le 7, 3) := dq_158 (a := 0) (b := 7) (fd_r fcX12_row (by decide +kernel)) rfl
theorem dX12_row_75 : decode cX12_row 75 = .ok (.aload_n 0, 1) := dq_42 (fd_r fcX12_row (by decide +kernel))
theorem dX12_row_76 : decode cX12_row 76 = .ok (.invokevirtual 331, 3) := dq_182 (a := 1) (b := 75) (fd_r fcX12_row (by decide +kernel)) rfl
theorem dX12_row_79 : decode cX12_row 79 = .ok (.iload_n 2, 1) := dq_28 (fd_r fcX12_row (by decide +kernel))
theorem dX12_row_80 : decode cX12_row 80 = .ok (.ifCond .le 9, 3) := dq_158 (a := 0) (b := 9) (fd_r fcX12_row (by decide +kernel)) rfl
theorem dX12_row_83 : decode cX12_row 83 = .ok (.aload_n 0, 1) := dq_42 (fd_r fcX12_row (by decide +kernel))
theorem dX12_row_84 : decode cX12_row 84 = .ok (.bipush 44, 2) := dq_16 (a := 44) (fd_r fcX12_row (by decide +kernel)) rfl
theorem dX12_row_86 : decode cX12_row 86 = .ok (.invokevirtual 413, 3) := dq_182 (a := 1) (b := 157) (fd_r fcX12_row (by decide +kernel)) rfl
theorem dX12_row_89 : decode cX12_row 89 = .ok (.aload_n 0, 1) := dq_42 (fd_r fcX12_row (by decide +kernel))
theorem dX12_row_90 : decode cX12_row 90 = .ok (.getfield 36, 3) := dq_180 (a := 0) (b := 36) (fd_r fcX12_row (by decide +kernel)) rfl
theorem dX12_row_93 : decode cX12_row 93 = .ok (.ifCond .ne 29, 3) := dq_154 (a := 0) (b := 29) (fd_r fcX12_row (by decide +kernel)) rfl
theorem dX12_row_96 : decode cX12_row 96 = .ok (.iload_n 1, 1) := dq_27 (fd_r fcX12_row (by decide +kernel))
theorem dX12_row_97 : decode cX12_row 97 = .ok (.aload_n 0, 1) := dq_42 (fd_r fcX12_row (by decide +kernel))
theorem dX12_row_98 : decode cX12_row 98 = .ok (.iload_n 2, 1) := dq_28 (fd_r fcX12_row (by decide +kernel))
theorem dX12_row_99 : decode cX12_row 99 = .ok (.invokevirtual 463, 3) := dq_182 (a := 1) (b := 207) (fd_r fcX12_row (by decide +kernel)) rfl
theorem dX12_row_102 : decode cX12_row 102 = .ok (.imul, 1) := dq_104 (fd_r fcX12_row (by decide +kernel))
theorem dX12_row_103 : decode cX12_row 103 = .ok (.aload_n 0, 1) := dq_42 (fd_r fcX12_row (by decide +kernel))
theorem dX12_row_104 : decode cX12_row 104 = .ok (.aload_n 0, 1) := dq_42 (fd_r fcX12_row (by decide +kernel))
theorem dX12_row_105 : decode cX12_row 105 = .ok (.getfield 84, 3) := dq_180 (a := 0) (b := 84) (fd_r fcX12_row (by decide +kernel)) rfl
theorem dX12_row_108 : decode cX12_row 108 = .ok (.iconst 4, 1) := dq_7 (fd_r fcX12_row (by decide +kernel))
theorem dX12_row_109 : decode cX12_row 109 = .ok (.aload_n 0, 1) := dq_42 (fd_r fcX12_row (by decide +kernel))
theorem dX12_row_110 : decode cX12_row 110 = .ok (.getfield 51, 3) := dq_180 (a := 0) (b := 51) (fd_r fcX12_row (by decide +kernel)) rfl
theorem dX12_row_113 : decode cX12_row 113 = .ok (.imul, 1) := dq_104 (fd_r fcX12_row (by decide +kernel))
theorem dX12_row_114 : decode cX12_row 114 = .ok (.iload_n 2, 1) := dq_28 (fd_r fcX12_row (by decide +kernel))
theorem dX12_row_115 : decode cX12_row 115 = .ok (.iadd, 1) := dq_96 (fd_r fcX12_row (by decide +kernel))
theorem dX12_row_116 : decode cX12_row 116 = .ok (.iaload, 1) := dq_46 (fd_r fcX12_row (by decide +kernel))
theorem dX12_row_117 : decode cX12_row 117 = .ok (.invokevirtual 525, 3) := dq_182 (a := 2) (b := 13) (fd_r fcX12_row (by decide +kernel)) rfl
theorem dX12_row_120 : decode cX12_row 120 = .ok (.iadd, 1) := dq_96 (fd_r fcX12_row (by decide +kernel))
theorem dX12_row_121 : decode cX12_row 121 = .ok (.istore_n 1, 1) := dq_60 (fd_r fcX12_row (by decide +kernel))
theorem dX12_row_122 : decode cX12_row 122 = .ok (.iinc 2 1, 3) := dq_132 (a := 2) (b := 1) (fd_r fcX12_row (by decide +kernel)) rfl
theorem dX12_row_125 : decode cX12_row 125 = .ok (.goto (-69), 3) := dq_167 (a := 255) (b := 187) (fd_r fcX12_row (by decide +kernel)) rfl
theorem dX12_row_128 : decode cX12_row 128 = .ok (.aload_n 0, 1) := dq_42 (fd_r fcX12_row (by decide +kernel))
theorem dX12_row_129 : decode cX12_row 129 = .ok (.getfield 36, 3) := dq_180 (a := 0) (b := 36) (fd_r fcX12_row (by decide +kernel)) rfl
theorem dX12_row_132 : decode cX12_row 132 = .ok (.ifCond .ne 7, 3) := dq_154 (a := 0) (b := 7) (fd_r fcX12_row (by decide +kernel)) rfl
theorem dX12_row_135 : decode cX12_row 135 = .ok (.aload_n 0, 1) := dq_42 (fd_r fcX12_row (by decide +kernel))
theorem dX12_row_136 : decode cX12_row 136 = .ok (.invokevirtual 331, 3) := dq_182 (a := 1) (b := 75) (fd_r fcX12_row (by decide +kernel)) rfl
theorem dX12_row_139 : decode cX12_row 139 = .ok (.aload_n 0, 1) := dq_42 (fd_r fcX12_row (by decide +kernel))
theorem dX12_row_140 : decode cX12_row 140 = .ok (.getfield 36, 3) := dq_180 (a := 0) (b := 36) (fd_r fcX12_row (by decide +kernel)) rfl
theorem dX12_row_143 : decode cX12_row 143 = .ok (.ifCond .ne 19, 3) := dq_154 (a := 0) (b := 19) (fd_r fcX12_row (by decide +kernel)) rfl
theorem dX12_row_146 : decode cX12_row 146 = .ok (.aload_n 0, 1) := dq_42 (fd_r fcX12_row (by decide +kernel))
theorem dX12_row_147 : decode cX12_row 147 = .ok (.getfield 20, 3) := dq_180 (a := 0) (b := 20) (fd_r fcX12_row (by decide +kernel)) rfl
theorem dX12_row_150 : decode cX12_row 150 = .ok (.ifCond .eq 12, 3) := dq_153 (a := 0) (b := 12) (fd_r fcX12_row (by decide +kernel)) rfl
theorem dX12_row_153 : decode cX12_row 153 = .ok (.aload_n 0, 1) := dq_42 (fd_r fcX12_row (by decide +kernel))
theorem dX12_row_154 : decode cX12_row 154 = .ok (.iconst 1, 1) := dq_4 (fd_r fcX12_row (by decide +kernel))
theorem dX12_row_155 : decode cX12_row 155 = .ok (.aload_n 0, 1) := dq_42 (fd_r fcX12_row (by decide +kernel))
theorem dX12_row_156 : decode cX12_row 156 = .ok (.getfield 23, 3) := dq_180 (a := 0) (b := 23) (fd_r fcX12_row (by decide +kernel)) rfl
theorem dX12_row_159 : decode cX12_row 159 = .ok (.invokevirtual 320, 3) := dq_182 (a := 1) (b := 64) (fd_r fcX12_row (by decide +kernel)) rfl
theorem dX12_row_162 : decode cX12_row 162 = .ok (.aload_n 0, 1) := dq_42 (fd_r fcX12_row (by decide +kernel))
theorem dX12_row_163 : decode cX12_row 163 = .ok (.aload_n 0, 1) := dq_42 (fd_r fcX12_row (by decide +kernel))
theorem dX12_row_164 : decode cX12_row 164 = .ok (.getfield 36, 3) := dq_180 (a := 0) (b := 36) (fd_r fcX12_row (by decide +kernel)) rfl
theorem dX12_row_167 : decode cX12_row 167 = .ok (.putfield 42, 3) := dq_181 (a := 0) (b := 42) (fd_r fcX12_row (by decide +kernel)) rfl
theorem dX12_row_170 : decode cX12_row 170 = .ok (.aload_n 0, 1) := dq_42 (fd_r fcX12_row (by decide +kernel))
theorem dX12_row_171 : decode cX12_row 171 = .ok (.aload_n 0, 1) := dq_42 (fd_r fcX12_row (by decide +kernel))
theorem dX12_row_172 : decode cX12_row 172 = .ok (.getfield 39, 3) := dq_180 (a := 0) (b := 39) (fd_r fcX12_row (by decide +kernel)) rfl
theorem dX12_row_175 : decode cX12_row 175 = .ok (.putfield 45, 3) := dq_181 (a := 0) (b := 45) (fd_r fcX12_row (by decide +kernel)) rfl
theorem dX12_row_178 : decode cX12_row 178 = .ok (.aload_n 0, 1) := dq_42 (fd_r fcX12_row (by decide +kernel))
theorem dX12_row_179 : decode cX12_row 179 = .ok (.getfield 36, 3) := dq_180 (a := 0) (b := 36) (fd_r fcX12_row (by decide +kernel)) rfl
theorem dX12_row_182 : decode cX12_row 182 = .ok (.ifCond .le 11, 3) := dq_158 (a := 0) (b := 11) (fd_r fcX12_row (by decide +kernel)) rfl
theorem dX12_row_185 : decode cX12_row 185 = .ok (.aload_n 0, 1) := dq_42 (fd_r fcX12_row (by decide +kernel))
theorem dX12_row_186 : decode cX12_row 186 = .ok (.iconst 1, 1) := dq_4 (fd_r fcX12_row (by decide +kernel))
theorem dX12_row_187 : decode cX12_row 187 = .ok (.invokevirtual 312, 3) := dq_182 (a := 1) (b := 56) (fd_r fcX12_row (by decide +kernel)) rfl
theorem dX12_row_190 : decode cX12_row 190 = .ok (.goto 4, 3) := dq_167 (a := 0) (b := 4) (fd_r fcX12_row (by decide +kernel)) rfl
theorem dX12_row_193 : decode cX12_row 193 = .ok (.iload_n 1, 1) := dq_27 (fd_r fcX12_row (by decide +kernel))
theorem dX12_row_194 : decode cX12_row 194 = .ok (.ireturn, 1) := dq_172 (fd_r fcX12_row (by decide +kernel))
theorem dX12_writes_0 : decode cX12_writes 0 = .ok (.aload_n 0, 1) := dq_42 (fd_r fcX12_writes (by decide +kernel))
theorem dX12_writes_1 : decode cX12_writes 1 = .ok (.getfield 221, 3) := dq_180 (a := 0) (b := 221) (fd_r fcX12_writes (by decide +kernel)) rfl
theorem dX12_writes_4 : decode cX12_writes 4 = .ok (.aload_n 0, 1) := dq_42 (fd_r fcX12_writes (by decide +kernel))
theorem dX12_writes_5 : decode cX12_writes 5 = .ok (.getfield 224, 3) := dq_180 (a := 0) (b := 224) (fd_r fcX12_writes (by decide +kernel)) rfl
theorem dX12_writes_8 : decode cX12_writes 8 = .ok (.iload_n 1, 1) := dq_27 (fd_r fcX12_writes (by decide +kernel))
theorem dX12_writes_9 : decode cX12_writes 9 = .ok (.sipush 255, 3) := dq_17 (a := 0) (b := 255) (fd_r fcX12_writes (by decide +kernel)) rfl
theorem dX12_writes_12 : decode cX12_writes 12 = .ok (.iand, 1) := dq_126 (fd_r fcX12_writes (by decide +kernel))
theorem dX12_writes_13 : decode cX12_writes 13 = .ok (.iastore, 1) := dq_79 (fd_r fcX12_writes (by decide +kernel))
theorem dX12_writes_14 : decode cX12_writes 14 = .ok (.aload_n 0, 1) := dq_42 (fd_r fcX12_writes (by decide +kernel))
theorem dX12_writes_15 : decode cX12_writes 15 = .ok (.dup, 1) := dq_89 (fd_r fcX12_writes (by decide +kernel))
theorem dX12_writes_16 : decode cX12_writes 16 = .ok (.getfield 224, 3) := dq_180 (a := 0) (b := 224) (fd_r fcX12_writes (by decide +kernel)) rfl
theorem dX12_writes_19 : decode cX12_writes 19 = .ok (.iconst 1, 1) := dq_4 (fd_r fcX12_writes (by decide +kernel))
theorem dX12_writes_20 : decode cX12_writes 20 = .ok (.iadd, 1) := dq_96 (fd_r fcX12_writes (by decide +kernel))
theorem dX12_writes_21 : decode cX12_writes 21 = .ok (.putfield 224, 3) := dq_181 (a := 0) (b := 224) (fd_r fcX12_writes (by decide +kernel)) rfl
theorem dX12_writes_24 : decode cX12_writes 24 = .ok (.return_, 1) := dq_177 (fd_r fcX12_writes (by decide +kernel))
theorem dX12_writesName_0 : decode cX12_writesName 0 = .ok (.lload_n 1, 1) := dq_31 (fd_r fcX12_writesName (by decide +kernel))
theorem dX12_writesName_1 : decode cX12_writesName 1 = .ok (.invokestatic 487, 3) := dq_184 (a := 1) (b := 231) (fd_r fcX12_writesName (by decide +kernel)) rfl
theorem dX12_writesName_4 : decode cX12_writesName 4 = .ok (.iconst 1, 1) := dq_4 (fd_r fcX12_writesName (by decide +kernel))
theorem dX12_writesName_5 : decode cX12_writesName 5 = .ok (.isub, 1) := dq_100 (fd_r fcX12_writesName (by decide +kernel))
theorem dX12_writesName_6 : decode cX12_writesName 6 = .ok (.istore_n 3, 1) := dq_62 (fd_r fcX12_writesName (by decide +kernel))
theorem dX12_writesName_7 : decode cX12_writesName 7 = .ok (.iload_n 3, 1) := dq_29 (fd_r fcX12_writesName (by decide +kernel))
theorem dX12_writesName_8 : decode cX12_writesName 8 = .ok (.ifCond .lt 24, 3) := dq_155 (a := 0) (b := 24) (fd_r fcX12_writesName (by decide +kernel)) rfl
theorem dX12_writesName_11 : decode cX12_writesName 11 = .ok (.aload_n 0, 1) := dq_42 (fd_r fcX12_writesName (by decide +kernel))
theorem dX12_writesName_12 : decode cX12_writesName 12 = .ok (.lload_n 1, 1) := dq_31 (fd_r fcX12_writesName (by decide +kernel))
theorem dX12_writesName_13 : decode cX12_writesName 13 = .ok (.bipush 8, 2) := dq_16 (a := 8) (fd_r fcX12_writesName (by decide +kernel)) rfl
theorem dX12_writesName_15 : decode cX12_writesName 15 = .ok (.iload_n 3, 1) := dq_29 (fd_r fcX12_writesName (by decide +kernel))
theorem dX12_writesName_16 : decode cX12_writesName 16 = .ok (.imul, 1) := dq_104 (fd_r fcX12_writesName (by decide +kernel))
theorem dX12_writesName_17 : decode cX12_writesName 17 = .ok (.lshr, 1) := dq_123 (fd_r fcX12_writesName (by decide +kernel))
theorem dX12_writesName_18 : decode cX12_writesName 18 = .ok (.ldc2_w 490, 3) := dq_20 (a := 1) (b := 234) (fd_r fcX12_writesName (by decide +kernel)) rfl
theorem dX12_writesName_21 : decode cX12_writesName 21 = .ok (.land, 1) := dq_127 (fd_r fcX12_writesName (by decide +kernel))
theorem dX12_writesName_22 : decode cX12_writesName 22 = .ok (.l2i, 1) := dq_136 (fd_r fcX12_writesName (by decide +kernel))
theorem dX12_writesName_23 : decode cX12_writesName 23 = .ok (.invokevirtual 528, 3) := dq_182 (a := 2) (b := 16) (fd_r fcX12_writesName (by decide +kernel)) rfl
theorem dX12_writesName_26 : decode cX12_writesName 26 = .ok (.iinc 3 (-1), 3) := dq_132 (a := 3) (b := 255) (fd_r fcX12_writesName (by decide +kernel)) rfl
theorem dX12_writesName_29 : decode cX12_writesName 29 = .ok (.goto (-22), 3) := dq_167 (a := 255) (b := 234) (fd_r fcX12_writesName (by decide +kernel)) rfl
theorem dX12_writesName_32 : decode cX12_writesName 32 = .ok (.return_, 1) := dq_177 (fd_r fcX12_writesName (by decide +kernel))
theorem dX12_later_0 : decode cX12_later 0 = .ok (.aload_n 0, 1) := dq_42 (fd_r fcX12_later (by decide +kernel))
theorem dX12_later_1 : decode cX12_later 1 = .ok (.getfield 227, 3) := dq_180 (a := 0) (b := 227) (fd_r fcX12_later (by decide +kernel)) rfl
theorem dX12_later_4 : decode cX12_later 4 = .ok (.aload_n 0, 1) := dq_42 (fd_r fcX12_later (by decide +kernel))
theorem dX12_later_5 : decode cX12_later 5 = .ok (.getfield 233, 3) := dq_180 (a := 0) (b := 233) (fd_r fcX12_later (by decide +kernel)) rfl
theorem dX12_later_8 : decode cX12_later 8 = .ok (.iload_n 1, 1) := dq_27 (fd_r fcX12_later (by decide +kernel))
theorem dX12_later_9 : decode cX12_later 9 = .ok (.iastore, 1) := dq_79 (fd_r fcX12_later (by decide +kernel))
theorem dX12_later_10 : decode cX12_later 10 = .ok (.aload_n 0, 1) := dq_42 (fd_r fcX12_later (by decide +kernel))
theorem dX12_later_11 : decode cX12_later 11 = .ok (.getfield 230, 3) := dq_180 (a := 0) (b := 230) (fd_r fcX12_later (by decide +kernel)) rfl
theorem dX12_later_14 : decode cX12_later 14 = .ok (.aload_n 0, 1) := dq_42 (fd_r fcX12_later (by decide +kernel))
theorem dX12_later_15 : decode cX12_later 15 = .ok (.getfield 233, 3) := dq_180 (a := 0) (b := 233) (fd_r fcX12_later (by decide +kernel)) rfl
theorem dX12_later_18 : decode cX12_later 18 = .ok (.iload_n 2, 1) := dq_28 (fd_r fcX12_later (by decide +kernel))
theorem dX12_later_19 : decode cX12_later 19 = .ok (.iastore, 1) := dq_79 (fd_r fcX12_later (by decide +kernel))
theorem dX12_later_20 : decode cX12_later 20 = .ok (.aload_n 0, 1) := dq_42 (fd_r fcX12_later (by decide +kernel))
theorem dX12_later_21 : decode cX12_later 21 = .ok (.dup, 1) := dq_89 (fd_r fcX12_later (by decide +kernel))
theorem dX12_later_22 : decode cX12_later 22 = .ok (.getfield 233, 3) := dq_180 (a := 0) (b := 233) (fd_r fcX12_later (by decide +kernel)) rfl
theorem dX12_later_25 : decode cX12_later 25 = .ok (.iconst 1, 1) := dq_4 (fd_r fcX12_later (by decide +kernel))
theorem dX12_later_26 : decode cX12_later 26 = .ok (.iadd, 1) := dq_96 (fd_r fcX12_later (by decide +kernel))
theorem dX12_later_27 : decode cX12_later 27 = .ok (.putfield 233, 3) := dq_181 (a := 0) (b := 233) (fd_r fcX12_later (by decide +kernel)) rfl
theorem dX12_later_30 : decode cX12_later 30 = .ok (.return_, 1) := dq_177 (fd_r fcX12_later (by decide +kernel))
theorem dX12_conOf_0 : decode cX12_conOf 0 = .ok (.iconst 0, 1) := dq_3 (fd_r fcX12_conOf (by decide +kernel))
theorem dX12_conOf_1 : decode cX12_conOf 1 = .ok (.istore_n 3, 1) := dq_62 (fd_r fcX12_conOf (by decide +kernel))
theorem dX12_conOf_2 : decode cX12_conOf 2 = .ok (.iload_n 3, 1) := dq_29 (fd_r fcX12_conOf (by decide +kernel))
theorem dX12_conOf_3 : decode cX12_conOf 3 = .ok (.aload_n 0, 1) := dq_42 (fd_r fcX12_conOf (by decide +kernel))
theorem dX12_conOf_4 : decode cX12_conOf 4 = .ok (.getfield 63, 3) := dq_180 (a := 0) (b := 63) (fd_r fcX12_conOf (by decide +kernel)) rfl
theorem dX12_conOf_7 : decode cX12_conOf 7 = .ok (.aload_n 0, 1) := dq_42 (fd_r fcX12_conOf (by decide +kernel))
theorem dX12_conOf_8 : decode cX12_conOf 8 = .ok (.getfield 51, 3) := dq_180 (a := 0) (b := 51) (fd_r fcX12_conOf (by decide +kernel)) rfl
theorem dX12_conOf_11 : decode cX12_conOf 11 = .ok (.iaload, 1) := dq_46 (fd_r fcX12_conOf (by decide +kernel))
theorem dX12_conOf_12 : decode cX12_conOf 12 = .ok (.if_icmp .ge 64, 3) := dq_162 (a := 0) (b := 64) (fd_r fcX12_conOf (by decide +kernel)) rfl
theorem dX12_conOf_15 : decode cX12_conOf 15 = .ok (.bipush 24, 2) := dq_16 (a := 24) (fd_r fcX12_conOf (by decide +kernel)) rfl
theorem dX12_conOf_17 : decode cX12_conOf 17 = .ok (.aload_n 0, 1) := dq_42 (fd_r fcX12_conOf (by decide +kernel))
theorem dX12_conOf_18 : decode cX12_conOf 18 = .ok (.getfield 51, 3) := dq_180 (a := 0) (b := 51) (fd_r fcX12_conOf (by decide +kernel)) rfl
theorem dX12_conOf_21 : decode cX12_conOf 21 = .ok (.imul, 1) := dq_104 (fd_r fcX12_conOf (by decide +kernel))
theorem dX12_conOf_22 : decode cX12_conOf 22 = .ok (.iload_n 3, 1) := dq_29 (fd_r fcX12_conOf (by decide +kernel))
theorem dX12_conOf_23 : decode cX12_conOf 23 = .ok (.iadd, 1) := dq_96 (fd_r fcX12_conOf (by decide +kernel))
theorem dX12_conOf_24 : decode cX12_conOf 24 = .ok (.istore 4, 2) := dq_54 (a := 4) (fd_r fcX12_conOf (by decide +kernel))
theorem dX12_conOf_26 : decode cX12_conOf 26 = .ok (.aload_n 0, 1) := dq_42 (fd_r fcX12_conOf (by decide +kernel))
theorem dX12_conOf_27 : decode cX12_conOf 27 = .ok (.getfield 66, 3) := dq_180 (a := 0) (b := 66) (fd_r fcX12_conOf (by decide +kernel)) rfl
theorem dX12_conOf_30 : decode cX12_conOf 30 = .ok (.iload 4, 2) := dq_21 (a := 4) (fd_r fcX12_conOf (by decide +kernel))
theorem dX12_conOf_32 : decode cX12_conOf 32 = .ok (.iaload, 1) := dq_46 (fd_r fcX12_conOf (by decide +kernel))
theorem dX12_conOf_33 : decode cX12_conOf 33 = .ok (.iload_n 1, 1) := dq_27 (fd_r fcX12_conOf (by decide +kernel))
theorem dX12_conOf_34 : decode cX12_conOf 34 = .ok (.if_icmp .ne 36, 3) := dq_160 (a := 0) (b := 36) (fd_r fcX12_conOf (by decide +kernel)) rfl
theorem dX12_conOf_37 : decode cX12_conOf 37 = .ok (.iload_n 2, 1) := dq_28 (fd_r fcX12_conOf (by decide +kernel))
theorem dX12_conOf_38 : decode cX12_conOf 38 = .ok (.aload_n 0, 1) := dq_42 (fd_r fcX12_conOf (by decide +kernel))
theorem dX12_conOf_39 : decode cX12_conOf 39 = .ok (.getfield 75, 3) := dq_180 (a := 0) (b := 75) (fd_r fcX12_conOf (by decide +kernel)) rfl
theorem dX12_conOf_42 : decode cX12_conOf 42 = .ok (.iload 4, 2) := dq_21 (a := 4) (fd_r fcX12_conOf (by decide +kernel))
theorem dX12_conOf_44 : decode cX12_conOf 44 = .ok (.iaload, 1) := dq_46 (fd_r fcX12_conOf (by decide +kernel))
theorem dX12_conOf_45 : decode cX12_conOf 45 = .ok (.aload_n 0, 1) := dq_42 (fd_r fcX12_conOf (by decide +kernel))
theorem dX12_conOf_46 : decode cX12_conOf 46 = .ok (.getfield 75, 3) := dq_180 (a := 0) (b := 75) (fd_r fcX12_conOf (by decide +kernel)) rfl
theorem dX12_conOf_49 : decode cX12_conOf 49 = .ok (.iload 4, 2) := dq_21 (a := 4) (fd_r fcX12_conOf (by decide +kernel))
theorem dX12_conOf_51 : decode cX12_conOf 51 = .ok (.iaload, 1) := dq_46 (fd_r fcX12_conOf (by decide +kernel))
theorem dX12_conOf_52 : decode cX12_conOf 52 = .ok (.aload_n 0, 1) := dq_42 (fd_r fcX12_conOf (by decide +kernel))
theorem dX12_conOf_53 : decode cX12_conOf 53 = .ok (.getfield 78, 3) := dq_180 (a := 0) (b := 78) (fd_r fcX12_conOf (by decide +kernel)) rfl
theorem dX12_conOf_56 : decode cX12_conOf 56 = .ok (.iload 4, 2) := dq_21 (a := 4) (fd_r fcX12_conOf (by decide +kernel))
theorem dX12_conOf_58 : decode cX12_conOf 58 = .ok (.iaload, 1) := dq_46 (fd_r fcX12_conOf (by decide +kernel))
theorem dX12_conOf_59 : decode cX12_conOf 59 = .ok (.iadd, 1) := dq_96 (fd_r fcX12_conOf (by decide +kernel))
theorem dX12_conOf_60 : decode cX12_conOf 60 = .ok (.iconst 1, 1) := dq_4 (fd_r fcX12_conOf (by decide +kernel))
theorem dX12_conOf_61 : decode cX12_conOf 61 = .ok (.isub, 1) := dq_100 (fd_r fcX12_conOf (by decide +kernel))
theorem dX12_conOf_62 : decode cX12_conOf 62 = .ok (.invokestatic 362, 3) := dq_184 (a := 1) (b := 106) (fd_r fcX12_conOf (by decide +kernel)) rfl
theorem dX12_conOf_65 : decode cX12_conOf 65 = .ok (.ifCond .eq 5, 3) := dq_153 (a := 0) (b := 5) (fd_r fcX12_conOf (by decide +kernel)) rfl
theorem dX12_conOf_68 : decode cX12_conOf 68 = .ok (.iload_n 3, 1) := dq_29 (fd_r fcX12_conOf (by decide +kernel))
theorem dX12_conOf_69 : decode cX12_conOf 69 = .ok (.ireturn, 1) := dq_172 (fd_r fcX12_conOf (by decide +kernel))
theorem dX12_conOf_70 : decode cX12_conOf 70 = .ok (.iinc 3 1, 3) := dq_132 (a := 3) (b := 1) (fd_r fcX12_conOf (by decide +kernel)) rfl
theorem dX12_conOf_73 : decode cX12_conOf 73 = .ok (.goto (-71), 3) := dq_167 (a := 255) (b := 185) (fd_r fcX12_conOf (by decide +kernel)) rfl
theorem dX12_writesValue_0 : decode cX12_writesValue 0 = .ok (.iload_n 1, 1) := dq_27 (fd_r fcX12_writesValue (by decide +kernel))
theorem dX12_writesValue_1 : decode cX12_writesValue 1 = .ok (.iconst 4, 1) := dq_7 (fd_r fcX12_writesValue (by decide +kernel))
theorem dX12_writesValue_2 : decode cX12_writesValue 2 = .ok (.if_icmp .ne 32, 3) := dq_160 (a := 0) (b := 32) (fd_r fcX12_writesValue (by decide +kernel)) rfl
theorem dX12_writesValue_5 : decode cX12_writesValue 5 = .ok (.iload_n 2, 1) := dq_28 (fd_r fcX12_writesValue (by decide +kernel))
theorem dX12_writesValue_6 : decode cX12_writesValue 6 = .ok (.bipush 9, 2) := dq_16 (a := 9) (fd_r fcX12_writesValue (by decide +kernel)) rfl
theorem dX12_writesValue_8 : decode cX12_writesValue 8 = .ok (.if_icmp .le 14, 3) := dq_164 (a := 0) (b := 14) (fd_r fcX12_writesValue (by decide +kernel)) rfl
theorem dX12_writesValue_11 : decode cX12_writesValue 11 = .ok (.aload_n 0, 1) := dq_42 (fd_r fcX12_writesValue (by decide +kernel))
theorem dX12_writesValue_12 : decode cX12_writesValue 12 = .ok (.bipush 48, 2) := dq_16 (a := 48) (fd_r fcX12_writesValue (by decide +kernel)) rfl
theorem dX12_writesValue_14 : decode cX12_writesValue 14 = .ok (.iload_n 2, 1) := dq_28 (fd_r fcX12_writesValue (by decide +kernel))
theorem dX12_writesValue_15 : decode cX12_writesValue 15 = .ok (.bipush 10, 2) := dq_16 (a := 10) (fd_r fcX12_writesValue (by decide +kernel)) rfl
theorem dX12_writesValue_17 : decode cX12_writesValue 17 = .ok (.idiv, 1) := dq_108 (fd_r fcX12_writesValue (by decide +kernel))
theorem dX12_writesValue_18 : decode cX12_writesValue 18 = .ok (.iadd, 1) := dq_96 (fd_r fcX12_writesValue (by decide +kernel))
theorem dX12_writesValue_19 : decode cX12_writesValue 19 = .ok (.invokevirtual 528, 3) := dq_182 (a := 2) (b := 16) (fd_r fcX12_writesValue (by decide +kernel)) rfl
theorem dX12_writesValue_22 : decode cX12_writesValue 22 = .ok (.aload_n 0, 1) := dq_42 (fd_r fcX12_writesValue (by decide +kernel))
theorem dX12_writesValue_23 : decode cX12_writesValue 23 = .ok (.bipush 48, 2) := dq_16 (a := 48) (fd_r fcX12_writesValue (by decide +kernel)) rfl
theorem dX12_writesValue_25 : decode cX12_writesValue 25 = .ok (.iload_n 2, 1) := dq_28 (fd_r fcX12_writesValue (by decide +kernel))
theorem dX12_writesValue_26 : decode cX12_writesValue 26 = .ok (.bipush 10, 2) := dq_16 (a := 10) (fd_r fcX12_writesValue (by decide +kernel)) rfl
theorem dX12_writesValue_28 : decode cX12_writesValue 28 = .ok (.irem, 1) := dq_112 (fd_r fcX12_writesValue (by decide +kernel))
theorem dX12_writesValue_29 : decode cX12_writesValue 29 = .ok (.iadd, 1) := dq_96 (fd_r fcX12_writesValue (by decide +kernel))
theorem dX12_writesValue_30 : decode cX12_writesValue 30 = .ok (.invokevirtual 528, 3) := dq_182 (a := 2) (b := 16) (fd_r fcX12_writesValue (by decide +kernel)) rfl
theorem dX12_writesValue_33 : decode cX12_writesValue 33 = .ok (.return_, 1) := dq_177 (fd_r fcX12_writesValue (by decide +kernel))
theorem dX12_writesValue_34 : decode cX12_writesValue 34 = .ok (.aload_n 0, 1) := dq_42 (fd_r fcX12_writesValue (by decide +kernel))
theorem dX12_writesValue_35 : decode cX12_writesValue 35 = .ok (.iload_n 1, 1) := dq_27 (fd_r fcX12_writesValue (by decide +kernel))
theorem dX12_writesValue_36 : decode cX12_writesValue 36 = .ok (.iload_n 2, 1) := dq_28 (fd_r fcX12_writesValue (by decide +kernel))
theorem dX12_writesValue_37 : decode cX12_writesValue 37 = .ok (.invokevirtual 531, 3) := dq_182 (a := 2) (b := 19) (fd_r fcX12_writesValue (by decide +kernel)) rfl
theorem dX12_writesValue_40 : decode cX12_writesValue 40 = .ok (.istore_n 3, 1) := dq_62 (fd_r fcX12_writesValue (by decide +kernel))
theorem dX12_writesValue_41 : decode cX12_writesValue 41 = .ok (.bipush 24, 2) := dq_16 (a := 24) (fd_r fcX12_writesValue (by decide +kernel)) rfl
theorem dX12_writesValue_43 : decode cX12_writesValue 43 = .ok (.aload_n 0, 1) := dq_42 (fd_r fcX12_writesValue (by decide +kernel))
theorem dX12_writesValue_44 : decode cX12_writesValue 44 = .ok (.getfield 51, 3) := dq_180 (a := 0) (b := 51) (fd_r fcX12_writesValue (by decide +kernel)) rfl
theorem dX12_writesValue_47 : decode cX12_writesValue 47 = .ok (.imul, 1) := dq_104 (fd_r fcX12_writesValue (by decide +kernel))
theorem dX12_writesValue_48 : decode cX12_writesValue 48 = .ok (.iload_n 3, 1) := dq_29 (fd_r fcX12_writesValue (by decide +kernel))
theorem dX12_writesValue_49 : decode cX12_writesValue 49 = .ok (.iadd, 1) := dq_96 (fd_r fcX12_writesValue (by decide +kernel))
theorem dX12_writesValue_50 : decode cX12_writesValue 50 = .ok (.istore 4, 2) := dq_54 (a := 4) (fd_r fcX12_writesValue (by decide +kernel))
theorem dX12_writesValue_52 : decode cX12_writesValue 52 = .ok (.aload_n 0, 1) := dq_42 (fd_r fcX12_writesValue (by decide +kernel))
theorem dX12_writesValue_53 : decode cX12_writesValue 53 = .ok (.aload_n 0, 1) := dq_42 (fd_r fcX12_writesValue (by decide +kernel))
theorem dX12_writesValue_54 : decode cX12_writesValue 54 = .ok (.getfield 118, 3) := dq_180 (a := 0) (b := 118) (fd_r fcX12_writesValue (by decide +kernel)) rfl
theorem dX12_writesValue_57 : decode cX12_writesValue 57 = .ok (.iload 4, 2) := dq_21 (a := 4) (fd_r fcX12_writesValue (by decide +kernel))
theorem dX12_writesValue_59 : decode cX12_writesValue 59 = .ok (.laload, 1) := dq_47 (fd_r fcX12_writesValue (by decide +kernel))
theorem dX12_writesValue_60 : decode cX12_writesValue 60 = .ok (.invokevirtual 534, 3) := dq_182 (a := 2) (b := 22) (fd_r fcX12_writesValue (by decide +kernel)) rfl
theorem dX12_writesValue_63 : decode cX12_writesValue 63 = .ok (.aload_n 0, 1) := dq_42 (fd_r fcX12_writesValue (by decide +kernel))
theorem dX12_writesValue_64 : decode cX12_writesValue 64 = .ok (.getfield 69, 3) := dq_180 (a := 0) (b := 69) (fd_r fcX12_writesValue (by decide +kernel)) rfl
theorem dX12_writesValue_67 : decode cX12_writesValue 67 = .ok (.iload 4, 2) := dq_21 (a := 4) (fd_r fcX12_writesValue (by decide +kernel))
theorem dX12_writesValue_69 : decode cX12_writesValue 69 = .ok (.iaload, 1) := dq_46 (fd_r fcX12_writesValue (by decide +kernel))
theorem dX12_writesValue_70 : decode cX12_writesValue 70 = .ok (.ifCond .ne 4, 3) := dq_154 (a := 0) (b := 4) (fd_r fcX12_writesValue (by decide +kernel)) rfl
theorem dX12_writesValue_73 : decode cX12_writesValue 73 = .ok (.return_, 1) := dq_177 (fd_r fcX12_writesValue (by decide +kernel))
theorem dX12_writesValue_74 : decode cX12_writesValue 74 = .ok (.aload_n 0, 1) := dq_42 (fd_r fcX12_writesValue (by decide +kernel))
theorem dX12_writesValue_75 : decode cX12_writesValue 75 = .ok (.iconst 5, 1) := dq_8 (fd_r fcX12_writesValue (by decide +kernel))
theorem dX12_writesValue_76 : decode cX12_writesValue 76 = .ok (.bipush 41, 2) := dq_16 (a := 41) (fd_r fcX12_writesValue (by decide +kernel)) rfl
theorem dX12_writesValue_78 : decode cX12_writesValue 78 = .ok (.invokevirtual 538, 3) := dq_182 (a := 2) (b := 26) (fd_r fcX12_writesValue (by decide +kernel)) rfl
theorem dX12_writesValue_81 : decode cX12_writesValue 81 = .ok (.aload_n 0, 1) := dq_42 (fd_r fcX12_writesValue (by decide +kernel))
theorem dX12_writesValue_82 : decode cX12_writesValue 82 = .ok (.getfield 69, 3) := dq_180 (a := 0) (b := 69) (fd_r fcX12_writesValue (by decide +kernel)) rfl
theorem dX12_writesValue_85 : decode cX12_writesValue 85 = .ok (.iload 4, 2) := dq_21 (a := 4) (fd_r fcX12_writesValue (by decide +kernel))
theorem dX12_writesValue_87 : decode cX12_writesValue 87 = .ok (.iaload, 1) := dq_46 (fd_r fcX12_writesValue (by decide +kernel))
theorem dX12_writesValue_88 : decode cX12_writesValue 88 = .ok (.iconst 1, 1) := dq_4 (fd_r fcX12_writesValue (by decide +kernel))
theorem dX12_writesValue_89 : decode cX12_writesValue 89 = .ok (.isub, 1) := dq_100 (fd_r fcX12_writesValue (by decide +kernel))
theorem dX12_writesValue_90 : decode cX12_writesValue 90 = .ok (.istore 5, 2) := dq_54 (a := 5) (fd_r fcX12_writesValue (by decide +kernel))
theorem dX12_writesValue_92 : decode cX12_writesValue 92 = .ok (.iload 5, 2) := dq_21 (a := 5) (fd_r fcX12_writesValue (by decide +kernel))
theorem dX12_writesValue_94 : decode cX12_writesValue 94 = .ok (.ifCond .lt 50, 3) := dq_155 (a := 0) (b := 50) (fd_r fcX12_writesValue (by decide +kernel)) rfl
theorem dX12_writesValue_97 : decode cX12_writesValue 97 = .ok (.aload_n 0, 1) := dq_42 (fd_r fcX12_writesValue (by decide +kernel))
theorem dX12_writesValue_98 : decode cX12_writesValue 98 = .ok (.aload_n 0, 1) := dq_42 (fd_r fcX12_writesValue (by decide +kernel))
theorem dX12_writesValue_99 : decode cX12_writesValue 99 = .ok (.getfield 72, 3) := dq_180 (a := 0) (b := 72) (fd_r fcX12_writesValue (by decide +kernel)) rfl
theorem dX12_writesValue_102 : decode cX12_writesValue 102 = .ok (.iconst 2, 1) := dq_5 (fd_r fcX12_writesValue (by decide +kernel))
theorem dX12_writesValue_103 : decode cX12_writesValue 103 = .ok (.iload 4, 2) := dq_21 (a := 4) (fd_r fcX12_writesValue (by decide +kernel))
theorem dX12_writesValue_105 : decode cX12_writesValue 105 = .ok (.imul, 1) := dq_104 (fd_r fcX12_writesValue (by decide +kernel))
theorem dX12_writesValue_106 : decode cX12_writesValue 106 = .ok (.iload 5, 2) := dq_21 (a := 5) (fd_r fcX12_writesValue (by decide +kernel))
theorem dX12_writesValue_108 : decode cX12_writesValue 108 = .ok (.iadd, 1) := dq_96 (fd_r fcX12_writesValue (by decide +kernel))
theorem dX12_writesValue_109 : decode cX12_writesValue 109 = .ok (.iaload, 1) := dq_46 (fd_r fcX12_writesValue (by decide +kernel))
theorem dX12_writesValue_110 : decode cX12_writesValue 110 = .ok (.aload_n 0, 1) := dq_42 (fd_r fcX12_writesValue (by decide +kernel))
theorem dX12_writesValue_111 : decode cX12_writesValue 111 = .ok (.iload_n 2, 1) := dq_28 (fd_r fcX12_writesValue (by decide +kernel))
theorem dX12_writesValue_112 : decode cX12_writesValue 112 = .ok (.iload_n 3, 1) := dq_29 (fd_r fcX12_writesValue (by decide +kernel))
theorem dX12_writesValue_113 : decode cX12_writesValue 113 = .ok (.iload 5, 2) := dq_21 (a := 5) (fd_r fcX12_writesValue (by decide +kernel))
theorem dX12_writesValue_115 : decode cX12_writesValue 115 = .ok (.invokevirtual 455, 3) := dq_182 (a := 1) (b := 199) (fd_r fcX12_writesValue (by decide +kernel)) rfl
theorem dX12_writesValue_118 : decode cX12_writesValue 118 = .ok (.invokevirtual 538, 3) := dq_182 (a := 2) (b := 26) (fd_r fcX12_writesValue (by decide +kernel)) rfl
theorem dX12_writesValue_121 : decode cX12_writesValue 121 = .ok (.aload_n 0, 1) := dq_42 (fd_r fcX12_writesValue (by decide +kernel))
theorem dX12_writesValue_122 : decode cX12_writesValue 122 = .ok (.iconst 5, 1) := dq_8 (fd_r fcX12_writesValue (by decide +kernel))
theorem dX12_writesValue_123 : decode cX12_writesValue 123 = .ok (.iload 5, 2) := dq_21 (a := 5) (fd_r fcX12_writesValue (by decide +kernel))
theorem dX12_writesValue_125 : decode cX12_writesValue 125 = .ok (.ifCond .ne 8, 3) := dq_154 (a := 0) (b := 8) (fd_r fcX12_writesValue (by decide +kernel)) rfl
theorem dX12_writesValue_128 : decode cX12_writesValue 128 = .ok (.bipush 40, 2) := dq_16 (a := 40) (fd_r fcX12_writesValue (by decide +kernel)) rfl
theorem dX12_writesValue_130 : decode cX12_writesValue 130 = .ok (.goto 5, 3) := dq_167 (a := 0) (b := 5) (fd_r fcX12_writesValue (by decide +kernel)) rfl
theorem dX12_writesValue_133 : decode cX12_writesValue 133 = .ok (.bipush 44, 2) := dq_16 (a := 44) (fd_r fcX12_writesValue (by decide +kernel)) rfl
theorem dX12_writesValue_135 : decode cX12_writesValue 135 = .ok (.invokevirtual 538, 3) := dq_182 (a := 2) (b := 26) (fd_r fcX12_writesValue (by decide +kernel)) rfl
theorem dX12_writesValue_138 : decode cX12_writesValue 138 = .ok (.iinc 5 (-1), 3) := dq_132 (a := 5) (b := 255) (fd_r fcX12_writesValue (by decide +kernel)) rfl
theorem dX12_writesValue_141 : decode cX12_writesValue 141 = .ok (.goto (-49), 3) := dq_167 (a := 255) (b := 207) (fd_r fcX12_writesValue (by decide +kernel)) rfl
theorem dX12_writesValue_144 : decode cX12_writesValue 144 = .ok (.return_, 1) := dq_177 (fd_r fcX12_writesValue (by decide +kernel))
theorem dX12_text_0 : decode cX12_text 0 = .ok (.aload_n 0, 1) := dq_42 (fd_r fcX12_text (by decide +kernel))
theorem dX12_text_1 : decode cX12_text 1 = .ok (.iload_n 1, 1) := dq_27 (fd_r fcX12_text (by decide +kernel))
theorem dX12_text_2 : decode cX12_text 2 = .ok (.invokevirtual 516, 3) := dq_182 (a := 2) (b := 4) (fd_r fcX12_text (by decide +kernel)) rfl
theorem dX12_text_5 : decode cX12_text 5 = .ok (.ifCond .ne 5, 3) := dq_154 (a := 0) (b := 5) (fd_r fcX12_text (by decide +kernel)) rfl
theorem dX12_text_8 : decode cX12_text 8 = .ok (.iconst (-1), 1) := dq_2 (fd_r fcX12_text (by decide +kernel))
theorem dX12_text_9 : decode cX12_text 9 = .ok (.ireturn, 1) := dq_172 (fd_r fcX12_text (by decide +kernel))
theorem dX12_text_10 : decode cX12_text 10 = .ok (.aload_n 0, 1) := dq_42 (fd_r fcX12_text (by decide +kernel))
theorem dX12_text_11 : decode cX12_text 11 = .ok (.iload_n 1, 1) := dq_27 (fd_r fcX12_text (by decide +kernel))
theorem dX12_text_12 : decode cX12_text 12 = .ok (.invokevirtual 478, 3) := dq_182 (a := 1) (b := 222) (fd_r fcX12_text (by decide +kernel)) rfl
theorem dX12_text_15 : decode cX12_text 15 = .ok (.aload_n 0, 1) := dq_42 (fd_r fcX12_text (by decide +kernel))
theorem dX12_text_16 : decode cX12_text 16 = .ok (.iconst 0, 1) := dq_3 (fd_r fcX12_text (by decide +kernel))
theorem dX12_text_17 : decode cX12_text 17 = .ok (.putfield 224, 3) := dq_181 (a := 0) (b := 224) (fd_r fcX12_text (by decide +kernel)) rfl
theorem dX12_text_20 : decode cX12_text 20 = .ok (.aload_n 0, 1) := dq_42 (fd_r fcX12_text (by decide +kernel))
theorem dX12_text_21 : decode cX12_text 21 = .ok (.iconst 0, 1) := dq_3 (fd_r fcX12_text (by decide +kernel))
theorem dX12_text_22 : decode cX12_text 22 = .ok (.putfield 233, 3) := dq_181 (a := 0) (b := 233) (fd_r fcX12_text (by decide +kernel)) rfl
theorem dX12_text_25 : decode cX12_text 25 = .ok (.aload_n 0, 1) := dq_42 (fd_r fcX12_text (by decide +kernel))
theorem dX12_text_26 : decode cX12_text 26 = .ok (.invokevirtual 459, 3) := dq_182 (a := 1) (b := 203) (fd_r fcX12_text (by decide +kernel)) rfl
theorem dX12_text_29 : decode cX12_text 29 = .ok (.iconst 1, 1) := dq_4 (fd_r fcX12_text (by decide +kernel))
theorem dX12_text_30 : decode cX12_text 30 = .ok (.isub, 1) := dq_100 (fd_r fcX12_text (by decide +kernel))
theorem dX12_text_31 : decode cX12_text 31 = .ok (.istore_n 2, 1) := dq_61 (fd_r fcX12_text (by decide +kernel))
theorem dX12_text_32 : decode cX12_text 32 = .ok (.iload_n 2, 1) := dq_28 (fd_r fcX12_text (by decide +kernel))
theorem dX12_text_33 : decode cX12_text 33 = .ok (.ifCond .lt 43, 3) := dq_155 (a := 0) (b := 43) (fd_r fcX12_text (by decide +kernel)) rfl
theorem dX12_text_36 : decode cX12_text 36 = .ok (.aload_n 0, 1) := dq_42 (fd_r fcX12_text (by decide +kernel))
theorem dX12_text_37 : decode cX12_text 37 = .ok (.aload_n 0, 1) := dq_42 (fd_r fcX12_text (by decide +kernel))
theorem dX12_text_38 : decode cX12_text 38 = .ok (.getfield 84, 3) := dq_180 (a := 0) (b := 84) (fd_r fcX12_text (by decide +kernel)) rfl
theorem dX12_text_41 : decode cX12_text 41 = .ok (.iconst 4, 1) := dq_7 (fd_r fcX12_text (by decide +kernel))
theorem dX12_text_42 : decode cX12_text 42 = .ok (.aload_n 0, 1) := dq_42 (fd_r fcX12_text (by decide +kernel))
theorem dX12_text_43 : decode cX12_text 43 = .ok (.getfield 51, 3) := dq_180 (a := 0) (b := 51) (fd_r fcX12_text (by decide +kernel)) rfl
theorem dX12_text_46 : decode cX12_text 46 = .ok (.imul, 1) := dq_104 (fd_r fcX12_text (by decide +kernel))
theorem dX12_text_47 : decode cX12_text 47 = .ok (.iload_n 2, 1) := dq_28 (fd_r fcX12_text (by decide +kernel))
theorem dX12_text_48 : decode cX12_text 48 = .ok (.iadd, 1) := dq_96 (fd_r fcX12_text (by decide +kernel))
theorem dX12_text_49 : decode cX12_text 49 = .ok (.iaload, 1) := dq_46 (fd_r fcX12_text (by decide +kernel))
theorem dX12_text_50 : decode cX12_text 50 = .ok (.aload_n 0, 1) := dq_42 (fd_r fcX12_text (by decide +kernel))
theorem dX12_text_51 : decode cX12_text 51 = .ok (.getfield 215, 3) := dq_180 (a := 0) (b := 215) (fd_r fcX12_text (by decide +kernel)) rfl
theorem dX12_text_54 : decode cX12_text 54 = .ok (.iload_n 2, 1) := dq_28 (fd_r fcX12_text (by decide +kernel))
theorem dX12_text_55 : decode cX12_text 55 = .ok (.iaload, 1) := dq_46 (fd_r fcX12_text (by decide +kernel))
theorem dX12_text_56 : decode cX12_text 56 = .ok (.invokevirtual 538, 3) := dq_182 (a := 2) (b := 26) (fd_r fcX12_text (by decide +kernel)) rfl
theorem dX12_text_59 : decode cX12_text 59 = .ok (.iload_n 2, 1) := dq_28 (fd_r fcX12_text (by decide +kernel))
theorem dX12_text_60 : decode cX12_text 60 = .ok (.ifCond .le 10, 3) := dq_158 (a := 0) (b := 10) (fd_r fcX12_text (by decide +kernel)) rfl
theorem dX12_text_63 : decode cX12_text 63 = .ok (.aload_n 0, 1) := dq_42 (fd_r fcX12_text (by decide +kernel))
theorem dX12_text_64 : decode cX12_text 64 = .ok (.iconst 5, 1) := dq_8 (fd_r fcX12_text (by decide +kernel))
theorem dX12_text_65 : decode cX12_text 65 = .ok (.bipush 44, 2) := dq_16 (a := 44) (fd_r fcX12_text (by decide +kernel)) rfl
theorem dX12_text_67 : decode cX12_text 67 = .ok (.invokevirtual 538, 3) := dq_182 (a := 2) (b := 26) (fd_r fcX12_text (by decide +kernel)) rfl
theorem dX12_text_70 : decode cX12_text 70 = .ok (.iinc 2 (-1), 3) := dq_132 (a := 2) (b := 255) (fd_r fcX12_text (by decide +kernel)) rfl
theorem dX12_text_73 : decode cX12_text 73 = .ok (.goto (-41), 3) := dq_167 (a := 255) (b := 215) (fd_r fcX12_text (by decide +kernel)) rfl
theorem dX12_text_76 : decode cX12_text 76 = .ok (.aload_n 0, 1) := dq_42 (fd_r fcX12_text (by decide +kernel))
theorem dX12_text_77 : decode cX12_text 77 = .ok (.getfield 233, 3) := dq_180 (a := 0) (b := 233) (fd_r fcX12_text (by decide +kernel)) rfl
theorem dX12_text_80 : decode cX12_text 80 = .ok (.ifCond .le 55, 3) := dq_158 (a := 0) (b := 55) (fd_r fcX12_text (by decide +kernel)) rfl
theorem dX12_text_83 : decode cX12_text 83 = .ok (.aload_n 0, 1) := dq_42 (fd_r fcX12_text (by decide +kernel))
theorem dX12_text_84 : decode cX12_text 84 = .ok (.dup, 1) := dq_89 (fd_r fcX12_text (by decide +kernel))
theorem dX12_text_85 : decode cX12_text 85 = .ok (.getfield 233, 3) := dq_180 (a := 0) (b := 233) (fd_r fcX12_text (by decide +kernel)) rfl
theorem dX12_text_88 : decode cX12_text 88 = .ok (.iconst 1, 1) := dq_4 (fd_r fcX12_text (by decide +kernel))
theorem dX12_text_89 : decode cX12_text 89 = .ok (.isub, 1) := dq_100 (fd_r fcX12_text (by decide +kernel))
theorem dX12_text_90 : decode cX12_text 90 = .ok (.putfield 233, 3) := dq_181 (a := 0) (b := 233) (fd_r fcX12_text (by decide +kernel)) rfl
theorem dX12_text_93 : decode cX12_text 93 = .ok (.aload_n 0, 1) := dq_42 (fd_r fcX12_text (by decide +kernel))
theorem dX12_text_94 : decode cX12_text 94 = .ok (.getfield 227, 3) := dq_180 (a := 0) (b := 227) (fd_r fcX12_text (by decide +kernel)) rfl
theorem dX12_text_97 : decode cX12_text 97 = .ok (.aload_n 0, 1) := dq_42 (fd_r fcX12_text (by decide +kernel))
theorem dX12_text_98 : decode cX12_text 98 = .ok (.getfield 233, 3) := dq_180 (a := 0) (b := 233) (fd_r fcX12_text (by decide +kernel)) rfl
theorem dX12_text_101 : decode cX12_text 101 = .ok (.iaload, 1) := dq_46 (fd_r fcX12_text (by decide +kernel))
theorem dX12_text_102 : decode cX12_text 102 = .ok (.istore_n 2, 1) := dq_61 (fd_r fcX12_text (by decide +kernel))
theorem dX12_text_103 : decode cX12_text 103 = .ok (.aload_n 0, 1) := dq_42 (fd_r fcX12_text (by decide +kernel))
theorem dX12_text_104 : decode cX12_text 104 = .ok (.getfield 230, 3) := dq_180 (a := 0) (b := 230) (fd_r fcX12_text (by decide +kernel)) rfl
theorem dX12_text_107 : decode cX12_text 107 = .ok (.aload_n 0, 1) := dq_42 (fd_r fcX12_text (by decide +kernel))
theorem dX12_text_108 : decode cX12_text 108 = .ok (.getfield 233, 3) := dq_180 (a := 0) (b := 233) (fd_r fcX12_text (by decide +kernel)) rfl
theorem dX12_text_111 : decode cX12_text 111 = .ok (.iaload, 1) := dq_46 (fd_r fcX12_text (by decide +kernel))
theorem dX12_text_112 : decode cX12_text 112 = .ok (.istore_n 3, 1) := dq_62 (fd_r fcX12_text (by decide +kernel))
theorem dX12_text_113 : decode cX12_text 113 = .ok (.iload_n 2, 1) := dq_28 (fd_r fcX12_text (by decide +kernel))
theorem dX12_text_114 : decode cX12_text 114 = .ok (.iconst 5, 1) := dq_8 (fd_r fcX12_text (by decide +kernel))
theorem dX12_text_115 : decode cX12_text 115 = .ok (.if_icmp .ne 11, 3) := dq_160 (a := 0) (b := 11) (fd_r fcX12_text (by decide +kernel)) rfl
theorem dX12_text_118 : decode cX12_text 118 = .ok (.aload_n 0, 1) := dq_42 (fd_r fcX12_text (by decide +kernel))
theorem dX12_text_119 : decode cX12_text 119 = .ok (.iload_n 3, 1) := dq_29 (fd_r fcX12_text (by decide +kernel))
theorem dX12_text_120 : decode cX12_text 120 = .ok (.invokevirtual 528, 3) := dq_182 (a := 2) (b := 16) (fd_r fcX12_text (by decide +kernel)) rfl
theorem dX12_text_123 : decode cX12_text 123 = .ok (.goto 9, 3) := dq_167 (a := 0) (b := 9) (fd_r fcX12_text (by decide +kernel)) rfl
theorem dX12_text_126 : decode cX12_text 126 = .ok (.aload_n 0, 1) := dq_42 (fd_r fcX12_text (by decide +kernel))
theorem dX12_text_127 : decode cX12_text 127 = .ok (.iload_n 2, 1) := dq_28 (fd_r fcX12_text (by decide +kernel))
theorem dX12_text_128 : decode cX12_text 128 = .ok (.iload_n 3, 1) := dq_29 (fd_r fcX12_text (by decide +kernel))
theorem dX12_text_129 : decode cX12_text 129 = .ok (.invokevirtual 541, 3) := dq_182 (a := 2) (b := 29) (fd_r fcX12_text (by decide +kernel)) rfl
theorem dX12_text_132 : decode cX12_text 132 = .ok (.goto (-56), 3) := dq_167 (a := 255) (b := 200) (fd_r fcX12_text (by decide +kernel)) rfl
theorem dX12_text_135 : decode cX12_text 135 = .ok (.aload_n 0, 1) := dq_42 (fd_r fcX12_text (by decide +kernel))
theorem dX12_text_136 : decode cX12_text 136 = .ok (.getfield 224, 3) := dq_180 (a := 0) (b := 224) (fd_r fcX12_text (by decide +kernel)) rfl
theorem dX12_text_139 : decode cX12_text 139 = .ok (.ireturn, 1) := dq_172 (fd_r fcX12_text (by decide +kernel))
theorem dX12_octet_0 : decode cX12_octet 0 = .ok (.iload_n 1, 1) := dq_27 (fd_r fcX12_octet (by decide +kernel))
theorem dX12_octet_1 : decode cX12_octet 1 = .ok (.iconst 0, 1) := dq_3 (fd_r fcX12_octet (by decide +kernel))
theorem dX12_octet_2 : decode cX12_octet 2 = .ok (.aload_n 0, 1) := dq_42 (fd_r fcX12_octet (by decide +kernel))
theorem dX12_octet_3 : decode cX12_octet 3 = .ok (.getfield 224, 3) := dq_180 (a := 0) (b := 224) (fd_r fcX12_octet (by decide +kernel)) rfl
theorem dX12_octet_6 : decode cX12_octet 6 = .ok (.iconst 1, 1) := dq_4 (fd_r fcX12_octet (by decide +kernel))
theorem dX12_octet_7 : decode cX12_octet 7 = .ok (.isub, 1) := dq_100 (fd_r fcX12_octet (by decide +kernel))
theorem dX12_octet_8 : decode cX12_octet 8 = .ok (.invokestatic 362, 3) := dq_184 (a := 1) (b := 106) (fd_r fcX12_octet (by decide +kernel)) rfl
theorem dX12_octet_11 : decode cX12_octet 11 = .ok (.ifCond .eq 12, 3) := dq_153 (a := 0) (b := 12) (fd_r fcX12_octet (by decide +kernel)) rfl
theorem dX12_octet_14 : decode cX12_octet 14 = .ok (.aload_n 0, 1) := dq_42 (fd_r fcX12_octet (by decide +kernel))
theorem dX12_octet_15 : decode cX12_octet 15 = .ok (.getfield 221, 3) := dq_180 (a := 0) (b := 221) (fd_r fcX12_octet (by decide +kernel)) rfl
theorem dX12_octet_18 : decode cX12_octet 18 = .ok (.iload_n 1, 1) := dq_27 (fd_r fcX12_octet (by decide +kernel))
theorem dX12_octet_19 : decode cX12_octet 19 = .ok (.iaload, 1) := dq_46 (fd_r fcX12_octet (by decide +kernel))
theorem dX12_octet_20 : decode cX12_octet 20 = .ok (.goto 4, 3) := dq_167 (a := 0) (b := 4) (fd_r fcX12_octet (by decide +kernel)) rfl
theorem dX12_octet_23 : decode cX12_octet 23 = .ok (.iconst (-1), 1) := dq_2 (fd_r fcX12_octet (by decide +kernel))
theorem dX12_octet_24 : decode cX12_octet 24 = .ok (.ireturn, 1) := dq_172 (fd_r fcX12_octet (by decide +kernel))
theorem dX12_leftOf_0 : decode cX12_leftOf 0 = .ok (.iload_n 0, 1) := dq_26 (fd_r fcX12_leftOf (by decide +kernel))
theorem dX12_leftOf_1 : decode cX12_leftOf 1 = .ok (.iload_n 1, 1) := dq_27 (fd_r fcX12_leftOf (by decide +kernel))
theorem dX12_leftOf_2 : decode cX12_leftOf 2 = .ok (.bipush 12, 2) := dq_16 (a := 12) (fd_r fcX12_leftOf (by decide +kernel)) rfl
theorem dX12_leftOf_4 : decode cX12_leftOf 4 = .ok (.ishl, 1) := dq_120 (fd_r fcX12_leftOf (by decide +kernel))
theorem dX12_leftOf_5 : decode cX12_leftOf 5 = .ok (.ior, 1) := dq_128 (fd_r fcX12_leftOf (by decide +kernel))
theorem dX12_leftOf_6 : decode cX12_leftOf 6 = .ok (.ireturn, 1) := dq_172 (fd_r fcX12_leftOf (by decide +kernel))
theorem dX12_armsIn_0 : decode cX12_armsIn 0 = .ok (.iload_n 0, 1) := dq_26 (fd_r fcX12_armsIn (by decide +kernel))
theorem dX12_armsIn_1 : decode cX12_armsIn 1 = .ok (.sipush 4095, 3) := dq_17 (a := 15) (b := 255) (fd_r fcX12_armsIn (by decide +kernel)) rfl
theorem dX12_armsIn_4 : decode cX12_armsIn 4 = .ok (.iand, 1) := dq_126 (fd_r fcX12_armsIn (by decide +kernel))
theorem dX12_armsIn_5 : decode cX12_armsIn 5 = .ok (.ireturn, 1) := dq_172 (fd_r fcX12_armsIn (by decide +kernel))
theorem dX12_columnsIn_0 : decode cX12_columnsIn 0 = .ok (.iload_n 0, 1) := dq_26 (fd_r fcX12_columnsIn (by decide +kernel))
theorem dX12_columnsIn_1 : decode cX12_columnsIn 1 = .ok (.bipush 12, 2) := dq_16 (a := 12) (fd_r fcX12_columnsIn (by decide +kernel)) rfl
theorem dX12_columnsIn_3 : decode cX12_columnsIn 3 = .ok (.ishr, 1) := dq_122 (fd_r fcX12_columnsIn (by decide +kernel))
theorem dX12_columnsIn_4 : decode cX12_columnsIn 4 = .ok (.ireturn, 1) := dq_172 (fd_r fcX12_columnsIn (by decide +kernel))
theorem dX12_worthOf_0 : decode cX12_worthOf 0 = .ok (.iconst 0, 1) := dq_3 (fd_r fcX12_worthOf (by decide +kernel))
theorem dX12_worthOf_1 : decode cX12_worthOf 1 = .ok (.istore_n 3, 1) := dq_62 (fd_r fcX12_worthOf (by decide +kernel))
theorem dX12_worthOf_2 : decode cX12_worthOf 2 = .ok (.aload_n 0, 1) := dq_42 (fd_r fcX12_worthOf (by decide +kernel))
theorem dX12_worthOf_3 : decode cX12_worthOf 3 = .ok (.getfield 243, 3) := dq_180 (a := 0) (b := 243) (fd_r fcX12_worthOf (by decide +kernel)) rfl
theorem dX12_worthOf_6 : decode cX12_worthOf 6 = .ok (.ifCond .ne 5, 3) := dq_154 (a := 0) (b := 5) (fd_r fcX12_worthOf (by decide +kernel)) rfl
theorem dX12_worthOf_9 : decode cX12_worthOf 9 = .ok (.iconst 0, 1) := dq_3 (fd_r fcX12_worthOf (by decide +kernel))
theorem dX12_worthOf_10 : decode cX12_worthOf 10 = .ok (.ireturn, 1) := dq_172 (fd_r fcX12_worthOf (by decide +kernel))
theorem dX12_worthOf_11 : decode cX12_worthOf 11 = .ok (.aload_n 0, 1) := dq_42 (fd_r fcX12_worthOf (by decide +kernel))
theorem dX12_worthOf_12 : decode cX12_worthOf 12 = .ok (.getfield 243, 3) := dq_180 (a := 0) (b := 243) (fd_r fcX12_worthOf (by decide +kernel)) rfl
theorem dX12_worthOf_15 : decode cX12_worthOf 15 = .ok (.iconst 1, 1) := dq_4 (fd_r fcX12_worthOf (by decide +kernel))
theorem dX12_worthOf_16 : decode cX12_worthOf 16 = .ok (.if_icmp .ne 45, 3) := dq_160 (a := 0) (b := 45) (fd_r fcX12_worthOf (by decide +kernel)) rfl
theorem dX12_worthOf_19 : decode cX12_worthOf 19 = .ok (.iload_n 1, 1) := dq_27 (fd_r fcX12_worthOf (by decide +kernel))
theorem dX12_worthOf_20 : decode cX12_worthOf 20 = .ok (.istore 4, 2) := dq_54 (a := 4) (fd_r fcX12_worthOf (by decide +kernel))
theorem dX12_worthOf_22 : decode cX12_worthOf 22 = .ok (.iload 4, 2) := dq_21 (a := 4) (fd_r fcX12_worthOf (by decide +kernel))
theorem dX12_worthOf_24 : decode cX12_worthOf 24 = .ok (.ifCond .le 35, 3) := dq_158 (a := 0) (b := 35) (fd_r fcX12_worthOf (by decide +kernel)) rfl
theorem dX12_worthOf_27 : decode cX12_worthOf 27 = .ok (.aload_n 0, 1) := dq_42 (fd_r fcX12_worthOf (by decide +kernel))
theorem dX12_worthOf_28 : decode cX12_worthOf 28 = .ok (.getfield 206, 3) := dq_180 (a := 0) (b := 206) (fd_r fcX12_worthOf (by decide +kernel)) rfl
theorem dX12_worthOf_31 : decode cX12_worthOf 31 = .ok (.iload_n 2, 1) := dq_28 (fd_r fcX12_worthOf (by decide +kernel))
theorem dX12_worthOf_32 : decode cX12_worthOf 32 = .ok (.iaload, 1) := dq_46 (fd_r fcX12_worthOf (by decide +kernel))
theorem dX12_worthOf_33 : decode cX12_worthOf 33 = .ok (.iload 4, 2) := dq_21 (a := 4) (fd_r fcX12_worthOf (by decide +kernel))
theorem dX12_worthOf_35 : decode cX12_worthOf 35 = .ok (.invokestatic 495, 3) := dq_184 (a := 1) (b := 239) (fd_r fcX12_worthOf (by decide +kernel)) rfl
theorem dX12_worthOf_38 : decode cX12_worthOf 38 = .ok (.ishr, 1) := dq_122 (fd_r fcX12_worthOf (by decide +kernel))
theorem dX12_worthOf_39 : decode cX12_worthOf 39 = .ok (.iconst 1, 1) := dq_4 (fd_r fcX12_worthOf (by decide +kernel))
theorem dX12_worthOf_40 : decode cX12_worthOf 40 = .ok (.iand, 1) := dq_126 (fd_r fcX12_worthOf (by decide +kernel))
theorem dX12_worthOf_41 : decode cX12_worthOf 41 = .ok (.ifCond .ne 18, 3) := dq_154 (a := 0) (b := 18) (fd_r fcX12_worthOf (by decide +kernel)) rfl
theorem dX12_worthOf_44 : decode cX12_worthOf 44 = .ok (.iinc 3 1, 3) := dq_132 (a := 3) (b := 1) (fd_r fcX12_worthOf (by decide +kernel)) rfl
theorem dX12_worthOf_47 : decode cX12_worthOf 47 = .ok (.iload 4, 2) := dq_21 (a := 4) (fd_r fcX12_worthOf (by decide +kernel))
end
end
section
section
theorem dX12_worthOf_49 : decode cX12_worthOf 49 = .ok (.iload 4, 2) := dq_21 (a := 4) (fd_r fcX12_worthOf (by decide +kernel))
theorem dX12_worthOf_51 : decode cX12_worthOf 51 = .ok (.iconst 1, 1) := dq_4 (fd_r fcX12_worthOf (by decide +kernel))
theorem dX12_worthOf_52 : decode cX12_worthOf 52 = .ok (.isub, 1) := dq_100 (fd_r fcX12_worthOf (by decide +kernel))
theorem dX12_worthOf_53 : decode cX12_worthOf 53 = .ok (.iand, 1) := dq_126 (fd_r fcX12_worthOf (by decide +kernel))
theorem dX12_worthOf_54 : decode cX12_worthOf 54 = .ok (.istore 4, 2) := dq_54 (a := 4) (fd_r fcX12_worthOf (by decide +kernel))
theorem dX12_worthOf_56 : decode cX12_worthOf 56 = .ok (.goto (-34), 3) := dq_167 (a := 255) (b := 222) (fd_r fcX12_worthOf (by decide +kernel)) rfl
theorem dX12_worthOf_59 : decode cX12_worthOf 59 = .ok (.iload_n 3, 1) := dq_29 (fd_r fcX12_worthOf (by decide +kernel))
theorem dX12_worthOf_60 : decode cX12_worthOf 60 = .ok (.ireturn, 1) := dq_172 (fd_r fcX12_worthOf (by decide +kernel))
theorem dX12_worthOf_61 : decode cX12_worthOf 61 = .ok (.aload_n 0, 1) := dq_42 (fd_r fcX12_worthOf (by decide +kernel))
theorem dX12_worthOf_62 : decode cX12_worthOf 62 = .ok (.dup, 1) := dq_89 (fd_r fcX12_worthOf (by decide +kernel))
theorem dX12_worthOf_63 : decode cX12_worthOf 63 = .ok (.getfield 249, 3) := dq_180 (a := 0) (b := 249) (fd_r fcX12_worthOf (by decide +kernel)) rfl
theorem dX12_worthOf_66 : decode cX12_worthOf 66 = .ok (.iconst 1, 1) := dq_4 (fd_r fcX12_worthOf (by decide +kernel))
theorem dX12_worthOf_67 : decode cX12_worthOf 67 = .ok (.iadd, 1) := dq_96 (fd_r fcX12_worthOf (by decide +kernel))
theorem dX12_worthOf_68 : decode cX12_worthOf 68 = .ok (.putfield 249, 3) := dq_181 (a := 0) (b := 249) (fd_r fcX12_worthOf (by decide +kernel)) rfl
theorem dX12_worthOf_71 : decode cX12_worthOf 71 = .ok (.iconst 0, 1) := dq_3 (fd_r fcX12_worthOf (by decide +kernel))
theorem dX12_worthOf_72 : decode cX12_worthOf 72 = .ok (.istore 4, 2) := dq_54 (a := 4) (fd_r fcX12_worthOf (by decide +kernel))
theorem dX12_worthOf_74 : decode cX12_worthOf 74 = .ok (.iconst 0, 1) := dq_3 (fd_r fcX12_worthOf (by decide +kernel))
theorem dX12_worthOf_75 : decode cX12_worthOf 75 = .ok (.istore 5, 2) := dq_54 (a := 5) (fd_r fcX12_worthOf (by decide +kernel))
theorem dX12_worthOf_77 : decode cX12_worthOf 77 = .ok (.iload 5, 2) := dq_21 (a := 5) (fd_r fcX12_worthOf (by decide +kernel))
theorem dX12_worthOf_79 : decode cX12_worthOf 79 = .ok (.aload_n 0, 1) := dq_42 (fd_r fcX12_worthOf (by decide +kernel))
theorem dX12_worthOf_80 : decode cX12_worthOf 80 = .ok (.getfield 164, 3) := dq_180 (a := 0) (b := 164) (fd_r fcX12_worthOf (by decide +kernel)) rfl
theorem dX12_worthOf_83 : decode cX12_worthOf 83 = .ok (.iload_n 2, 1) := dq_28 (fd_r fcX12_worthOf (by decide +kernel))
theorem dX12_worthOf_84 : decode cX12_worthOf 84 = .ok (.iaload, 1) := dq_46 (fd_r fcX12_worthOf (by decide +kernel))
theorem dX12_worthOf_85 : decode cX12_worthOf 85 = .ok (.if_icmp .ge 79, 3) := dq_162 (a := 0) (b := 79) (fd_r fcX12_worthOf (by decide +kernel)) rfl
theorem dX12_worthOf_88 : decode cX12_worthOf 88 = .ok (.aload_n 0, 1) := dq_42 (fd_r fcX12_worthOf (by decide +kernel))
theorem dX12_worthOf_89 : decode cX12_worthOf 89 = .ok (.getfield 203, 3) := dq_180 (a := 0) (b := 203) (fd_r fcX12_worthOf (by decide +kernel)) rfl
theorem dX12_worthOf_92 : decode cX12_worthOf 92 = .ok (.sipush 2010, 3) := dq_17 (a := 7) (b := 218) (fd_r fcX12_worthOf (by decide +kernel)) rfl
theorem dX12_worthOf_95 : decode cX12_worthOf 95 = .ok (.iload_n 2, 1) := dq_28 (fd_r fcX12_worthOf (by decide +kernel))
theorem dX12_worthOf_96 : decode cX12_worthOf 96 = .ok (.imul, 1) := dq_104 (fd_r fcX12_worthOf (by decide +kernel))
theorem dX12_worthOf_97 : decode cX12_worthOf 97 = .ok (.iload 5, 2) := dq_21 (a := 5) (fd_r fcX12_worthOf (by decide +kernel))
theorem dX12_worthOf_99 : decode cX12_worthOf 99 = .ok (.iadd, 1) := dq_96 (fd_r fcX12_worthOf (by decide +kernel))
theorem dX12_worthOf_100 : decode cX12_worthOf 100 = .ok (.iaload, 1) := dq_46 (fd_r fcX12_worthOf (by decide +kernel))
theorem dX12_worthOf_101 : decode cX12_worthOf 101 = .ok (.iload_n 1, 1) := dq_27 (fd_r fcX12_worthOf (by decide +kernel))
theorem dX12_worthOf_102 : decode cX12_worthOf 102 = .ok (.iand, 1) := dq_126 (fd_r fcX12_worthOf (by decide +kernel))
theorem dX12_worthOf_103 : decode cX12_worthOf 103 = .ok (.istore 6, 2) := dq_54 (a := 6) (fd_r fcX12_worthOf (by decide +kernel))
theorem dX12_worthOf_105 : decode cX12_worthOf 105 = .ok (.aload_n 0, 1) := dq_42 (fd_r fcX12_worthOf (by decide +kernel))
theorem dX12_worthOf_106 : decode cX12_worthOf 106 = .ok (.getfield 246, 3) := dq_180 (a := 0) (b := 246) (fd_r fcX12_worthOf (by decide +kernel)) rfl
theorem dX12_worthOf_109 : decode cX12_worthOf 109 = .ok (.iload 6, 2) := dq_21 (a := 6) (fd_r fcX12_worthOf (by decide +kernel))
theorem dX12_worthOf_111 : decode cX12_worthOf 111 = .ok (.iaload, 1) := dq_46 (fd_r fcX12_worthOf (by decide +kernel))
theorem dX12_worthOf_112 : decode cX12_worthOf 112 = .ok (.aload_n 0, 1) := dq_42 (fd_r fcX12_worthOf (by decide +kernel))
theorem dX12_worthOf_113 : decode cX12_worthOf 113 = .ok (.getfield 249, 3) := dq_180 (a := 0) (b := 249) (fd_r fcX12_worthOf (by decide +kernel)) rfl
theorem dX12_worthOf_116 : decode cX12_worthOf 116 = .ok (.if_icmp .ne 6, 3) := dq_160 (a := 0) (b := 6) (fd_r fcX12_worthOf (by decide +kernel)) rfl
theorem dX12_worthOf_119 : decode cX12_worthOf 119 = .ok (.goto 39, 3) := dq_167 (a := 0) (b := 39) (fd_r fcX12_worthOf (by decide +kernel)) rfl
theorem dX12_worthOf_122 : decode cX12_worthOf 122 = .ok (.aload_n 0, 1) := dq_42 (fd_r fcX12_worthOf (by decide +kernel))
theorem dX12_worthOf_123 : decode cX12_worthOf 123 = .ok (.getfield 246, 3) := dq_180 (a := 0) (b := 246) (fd_r fcX12_worthOf (by decide +kernel)) rfl
theorem dX12_worthOf_126 : decode cX12_worthOf 126 = .ok (.iload 6, 2) := dq_21 (a := 6) (fd_r fcX12_worthOf (by decide +kernel))
theorem dX12_worthOf_128 : decode cX12_worthOf 128 = .ok (.aload_n 0, 1) := dq_42 (fd_r fcX12_worthOf (by decide +kernel))
theorem dX12_worthOf_129 : decode cX12_worthOf 129 = .ok (.getfield 249, 3) := dq_180 (a := 0) (b := 249) (fd_r fcX12_worthOf (by decide +kernel)) rfl
theorem dX12_worthOf_132 : decode cX12_worthOf 132 = .ok (.iastore, 1) := dq_79 (fd_r fcX12_worthOf (by decide +kernel))
theorem dX12_worthOf_133 : decode cX12_worthOf 133 = .ok (.iinc 3 1, 3) := dq_132 (a := 3) (b := 1) (fd_r fcX12_worthOf (by decide +kernel)) rfl
theorem dX12_worthOf_136 : decode cX12_worthOf 136 = .ok (.iload 6, 2) := dq_21 (a := 6) (fd_r fcX12_worthOf (by decide +kernel))
theorem dX12_worthOf_138 : decode cX12_worthOf 138 = .ok (.invokestatic 544, 3) := dq_184 (a := 2) (b := 32) (fd_r fcX12_worthOf (by decide +kernel)) rfl
theorem dX12_worthOf_141 : decode cX12_worthOf 141 = .ok (.iload 4, 2) := dq_21 (a := 4) (fd_r fcX12_worthOf (by decide +kernel))
theorem dX12_worthOf_143 : decode cX12_worthOf 143 = .ok (.if_icmp .le 11, 3) := dq_164 (a := 0) (b := 11) (fd_r fcX12_worthOf (by decide +kernel)) rfl
theorem dX12_worthOf_146 : decode cX12_worthOf 146 = .ok (.iload 6, 2) := dq_21 (a := 6) (fd_r fcX12_worthOf (by decide +kernel))
theorem dX12_worthOf_148 : decode cX12_worthOf 148 = .ok (.invokestatic 544, 3) := dq_184 (a := 2) (b := 32) (fd_r fcX12_worthOf (by decide +kernel)) rfl
theorem dX12_worthOf_151 : decode cX12_worthOf 151 = .ok (.goto 5, 3) := dq_167 (a := 0) (b := 5) (fd_r fcX12_worthOf (by decide +kernel)) rfl
theorem dX12_worthOf_154 : decode cX12_worthOf 154 = .ok (.iload 4, 2) := dq_21 (a := 4) (fd_r fcX12_worthOf (by decide +kernel))
theorem dX12_worthOf_156 : decode cX12_worthOf 156 = .ok (.istore 4, 2) := dq_54 (a := 4) (fd_r fcX12_worthOf (by decide +kernel))
theorem dX12_worthOf_158 : decode cX12_worthOf 158 = .ok (.iinc 5 1, 3) := dq_132 (a := 5) (b := 1) (fd_r fcX12_worthOf (by decide +kernel)) rfl
theorem dX12_worthOf_161 : decode cX12_worthOf 161 = .ok (.goto (-84), 3) := dq_167 (a := 255) (b := 172) (fd_r fcX12_worthOf (by decide +kernel)) rfl
theorem dX12_worthOf_164 : decode cX12_worthOf 164 = .ok (.aload_n 0, 1) := dq_42 (fd_r fcX12_worthOf (by decide +kernel))
theorem dX12_worthOf_165 : decode cX12_worthOf 165 = .ok (.getfield 243, 3) := dq_180 (a := 0) (b := 243) (fd_r fcX12_worthOf (by decide +kernel)) rfl
theorem dX12_worthOf_168 : decode cX12_worthOf 168 = .ok (.iconst 2, 1) := dq_5 (fd_r fcX12_worthOf (by decide +kernel))
theorem dX12_worthOf_169 : decode cX12_worthOf 169 = .ok (.if_icmp .ne 8, 3) := dq_160 (a := 0) (b := 8) (fd_r fcX12_worthOf (by decide +kernel)) rfl
theorem dX12_worthOf_172 : decode cX12_worthOf 172 = .ok (.iload_n 3, 1) := dq_29 (fd_r fcX12_worthOf (by decide +kernel))
theorem dX12_worthOf_173 : decode cX12_worthOf 173 = .ok (.ineg, 1) := dq_116 (fd_r fcX12_worthOf (by decide +kernel))
theorem dX12_worthOf_174 : decode cX12_worthOf 174 = .ok (.goto 6, 3) := dq_167 (a := 0) (b := 6) (fd_r fcX12_worthOf (by decide +kernel)) rfl
theorem dX12_worthOf_177 : decode cX12_worthOf 177 = .ok (.iload 4, 2) := dq_21 (a := 4) (fd_r fcX12_worthOf (by decide +kernel))
theorem dX12_worthOf_179 : decode cX12_worthOf 179 = .ok (.ineg, 1) := dq_116 (fd_r fcX12_worthOf (by decide +kernel))
theorem dX12_worthOf_180 : decode cX12_worthOf 180 = .ok (.ireturn, 1) := dq_172 (fd_r fcX12_worthOf (by decide +kernel))
theorem dX12_asksFor_0 : decode cX12_asksFor 0 = .ok (.aload_n 0, 1) := dq_42 (fd_r fcX12_asksFor (by decide +kernel))
theorem dX12_asksFor_1 : decode cX12_asksFor 1 = .ok (.getfield 240, 3) := dq_180 (a := 0) (b := 240) (fd_r fcX12_asksFor (by decide +kernel)) rfl
theorem dX12_asksFor_4 : decode cX12_asksFor 4 = .ok (.iload_n 1, 1) := dq_27 (fd_r fcX12_asksFor (by decide +kernel))
theorem dX12_asksFor_5 : decode cX12_asksFor 5 = .ok (.iaload, 1) := dq_46 (fd_r fcX12_asksFor (by decide +kernel))
theorem dX12_asksFor_6 : decode cX12_asksFor 6 = .ok (.iconst 3, 1) := dq_6 (fd_r fcX12_asksFor (by decide +kernel))
theorem dX12_asksFor_7 : decode cX12_asksFor 7 = .ok (.ishr, 1) := dq_122 (fd_r fcX12_asksFor (by decide +kernel))
theorem dX12_asksFor_8 : decode cX12_asksFor 8 = .ok (.aload_n 0, 1) := dq_42 (fd_r fcX12_asksFor (by decide +kernel))
theorem dX12_asksFor_9 : decode cX12_asksFor 9 = .ok (.getfield 236, 3) := dq_180 (a := 0) (b := 236) (fd_r fcX12_asksFor (by decide +kernel)) rfl
theorem dX12_asksFor_12 : decode cX12_asksFor 12 = .ok (.if_icmp .ne 13, 3) := dq_160 (a := 0) (b := 13) (fd_r fcX12_asksFor (by decide +kernel)) rfl
theorem dX12_asksFor_15 : decode cX12_asksFor 15 = .ok (.aload_n 0, 1) := dq_42 (fd_r fcX12_asksFor (by decide +kernel))
theorem dX12_asksFor_16 : decode cX12_asksFor 16 = .ok (.getfield 240, 3) := dq_180 (a := 0) (b := 240) (fd_r fcX12_asksFor (by decide +kernel)) rfl
theorem dX12_asksFor_19 : decode cX12_asksFor 19 = .ok (.iload_n 1, 1) := dq_27 (fd_r fcX12_asksFor (by decide +kernel))
theorem dX12_asksFor_20 : decode cX12_asksFor 20 = .ok (.iaload, 1) := dq_46 (fd_r fcX12_asksFor (by decide +kernel))
theorem dX12_asksFor_21 : decode cX12_asksFor 21 = .ok (.bipush 7, 2) := dq_16 (a := 7) (fd_r fcX12_asksFor (by decide +kernel)) rfl
theorem dX12_asksFor_23 : decode cX12_asksFor 23 = .ok (.iand, 1) := dq_126 (fd_r fcX12_asksFor (by decide +kernel))
theorem dX12_asksFor_24 : decode cX12_asksFor 24 = .ok (.ireturn, 1) := dq_172 (fd_r fcX12_asksFor (by decide +kernel))
theorem dX12_asksFor_25 : decode cX12_asksFor 25 = .ok (.iload_n 1, 1) := dq_27 (fd_r fcX12_asksFor (by decide +kernel))
theorem dX12_asksFor_26 : decode cX12_asksFor 26 = .ok (.invokestatic 547, 3) := dq_184 (a := 2) (b := 35) (fd_r fcX12_asksFor (by decide +kernel)) rfl
theorem dX12_asksFor_29 : decode cX12_asksFor 29 = .ok (.istore_n 2, 1) := dq_61 (fd_r fcX12_asksFor (by decide +kernel))
theorem dX12_asksFor_30 : decode cX12_asksFor 30 = .ok (.iload_n 2, 1) := dq_28 (fd_r fcX12_asksFor (by decide +kernel))
theorem dX12_asksFor_31 : decode cX12_asksFor 31 = .ok (.invokestatic 495, 3) := dq_184 (a := 1) (b := 239) (fd_r fcX12_asksFor (by decide +kernel)) rfl
theorem dX12_asksFor_34 : decode cX12_asksFor 34 = .ok (.istore_n 3, 1) := dq_62 (fd_r fcX12_asksFor (by decide +kernel))
theorem dX12_asksFor_35 : decode cX12_asksFor 35 = .ok (.iconst 4, 1) := dq_7 (fd_r fcX12_asksFor (by decide +kernel))
theorem dX12_asksFor_36 : decode cX12_asksFor 36 = .ok (.istore 4, 2) := dq_54 (a := 4) (fd_r fcX12_asksFor (by decide +kernel))
theorem dX12_asksFor_38 : decode cX12_asksFor 38 = .ok (.iconst 0, 1) := dq_3 (fd_r fcX12_asksFor (by decide +kernel))
theorem dX12_asksFor_39 : decode cX12_asksFor 39 = .ok (.istore 5, 2) := dq_54 (a := 5) (fd_r fcX12_asksFor (by decide +kernel))
theorem dX12_asksFor_41 : decode cX12_asksFor 41 = .ok (.iconst 0, 1) := dq_3 (fd_r fcX12_asksFor (by decide +kernel))
theorem dX12_asksFor_42 : decode cX12_asksFor 42 = .ok (.istore 6, 2) := dq_54 (a := 6) (fd_r fcX12_asksFor (by decide +kernel))
theorem dX12_asksFor_44 : decode cX12_asksFor 44 = .ok (.iload 6, 2) := dq_21 (a := 6) (fd_r fcX12_asksFor (by decide +kernel))
theorem dX12_asksFor_46 : decode cX12_asksFor 46 = .ok (.aload_n 0, 1) := dq_42 (fd_r fcX12_asksFor (by decide +kernel))
theorem dX12_asksFor_47 : decode cX12_asksFor 47 = .ok (.invokevirtual 459, 3) := dq_182 (a := 1) (b := 203) (fd_r fcX12_asksFor (by decide +kernel)) rfl
theorem dX12_asksFor_50 : decode cX12_asksFor 50 = .ok (.if_icmp .ge 77, 3) := dq_162 (a := 0) (b := 77) (fd_r fcX12_asksFor (by decide +kernel)) rfl
theorem dX12_asksFor_53 : decode cX12_asksFor 53 = .ok (.iload_n 3, 1) := dq_29 (fd_r fcX12_asksFor (by decide +kernel))
theorem dX12_asksFor_54 : decode cX12_asksFor 54 = .ok (.iconst (-1), 1) := dq_2 (fd_r fcX12_asksFor (by decide +kernel))
theorem dX12_asksFor_55 : decode cX12_asksFor 55 = .ok (.if_icmp .eq 72, 3) := dq_159 (a := 0) (b := 72) (fd_r fcX12_asksFor (by decide +kernel)) rfl
theorem dX12_asksFor_58 : decode cX12_asksFor 58 = .ok (.iload_n 1, 1) := dq_27 (fd_r fcX12_asksFor (by decide +kernel))
theorem dX12_asksFor_59 : decode cX12_asksFor 59 = .ok (.invokestatic 550, 3) := dq_184 (a := 2) (b := 38) (fd_r fcX12_asksFor (by decide +kernel)) rfl
theorem dX12_asksFor_62 : decode cX12_asksFor 62 = .ok (.iload 6, 2) := dq_21 (a := 6) (fd_r fcX12_asksFor (by decide +kernel))
theorem dX12_asksFor_64 : decode cX12_asksFor 64 = .ok (.ishr, 1) := dq_122 (fd_r fcX12_asksFor (by decide +kernel))
theorem dX12_asksFor_65 : decode cX12_asksFor 65 = .ok (.iconst 1, 1) := dq_4 (fd_r fcX12_asksFor (by decide +kernel))
theorem dX12_asksFor_66 : decode cX12_asksFor 66 = .ok (.iand, 1) := dq_126 (fd_r fcX12_asksFor (by decide +kernel))
theorem dX12_asksFor_67 : decode cX12_asksFor 67 = .ok (.ifCond .eq 54, 3) := dq_153 (a := 0) (b := 54) (fd_r fcX12_asksFor (by decide +kernel)) rfl
theorem dX12_asksFor_70 : decode cX12_asksFor 70 = .ok (.aload_n 0, 1) := dq_42 (fd_r fcX12_asksFor (by decide +kernel))
theorem dX12_asksFor_71 : decode cX12_asksFor 71 = .ok (.getfield 206, 3) := dq_180 (a := 0) (b := 206) (fd_r fcX12_asksFor (by decide +kernel)) rfl
theorem dX12_asksFor_74 : decode cX12_asksFor 74 = .ok (.iload 6, 2) := dq_21 (a := 6) (fd_r fcX12_asksFor (by decide +kernel))
theorem dX12_asksFor_76 : decode cX12_asksFor 76 = .ok (.iaload, 1) := dq_46 (fd_r fcX12_asksFor (by decide +kernel))
theorem dX12_asksFor_77 : decode cX12_asksFor 77 = .ok (.iload_n 3, 1) := dq_29 (fd_r fcX12_asksFor (by decide +kernel))
theorem dX12_asksFor_78 : decode cX12_asksFor 78 = .ok (.ishr, 1) := dq_122 (fd_r fcX12_asksFor (by decide +kernel))
theorem dX12_asksFor_79 : decode cX12_asksFor 79 = .ok (.iconst 1, 1) := dq_4 (fd_r fcX12_asksFor (by decide +kernel))
theorem dX12_asksFor_80 : decode cX12_asksFor 80 = .ok (.iand, 1) := dq_126 (fd_r fcX12_asksFor (by decide +kernel))
theorem dX12_asksFor_81 : decode cX12_asksFor 81 = .ok (.iconst 1, 1) := dq_4 (fd_r fcX12_asksFor (by decide +kernel))
theorem dX12_asksFor_82 : decode cX12_asksFor 82 = .ok (.if_icmp .ne 6, 3) := dq_160 (a := 0) (b := 6) (fd_r fcX12_asksFor (by decide +kernel)) rfl
theorem dX12_asksFor_85 : decode cX12_asksFor 85 = .ok (.goto 36, 3) := dq_167 (a := 0) (b := 36) (fd_r fcX12_asksFor (by decide +kernel)) rfl
theorem dX12_asksFor_88 : decode cX12_asksFor 88 = .ok (.aload_n 0, 1) := dq_42 (fd_r fcX12_asksFor (by decide +kernel))
theorem dX12_asksFor_89 : decode cX12_asksFor 89 = .ok (.iload_n 2, 1) := dq_28 (fd_r fcX12_asksFor (by decide +kernel))
theorem dX12_asksFor_90 : decode cX12_asksFor 90 = .ok (.iload 6, 2) := dq_21 (a := 6) (fd_r fcX12_asksFor (by decide +kernel))
theorem dX12_asksFor_92 : decode cX12_asksFor 92 = .ok (.invokevirtual 553, 3) := dq_182 (a := 2) (b := 41) (fd_r fcX12_asksFor (by decide +kernel)) rfl
theorem dX12_asksFor_95 : decode cX12_asksFor 95 = .ok (.istore 7, 2) := dq_54 (a := 7) (fd_r fcX12_asksFor (by decide +kernel))
theorem dX12_asksFor_97 : decode cX12_asksFor 97 = .ok (.iload 4, 2) := dq_21 (a := 4) (fd_r fcX12_asksFor (by decide +kernel))
theorem dX12_asksFor_99 : decode cX12_asksFor 99 = .ok (.iconst 4, 1) := dq_7 (fd_r fcX12_asksFor (by decide +kernel))
theorem dX12_asksFor_100 : decode cX12_asksFor 100 = .ok (.if_icmp .eq 13, 3) := dq_159 (a := 0) (b := 13) (fd_r fcX12_asksFor (by decide +kernel)) rfl
theorem dX12_asksFor_103 : decode cX12_asksFor 103 = .ok (.iload 7, 2) := dq_21 (a := 7) (fd_r fcX12_asksFor (by decide +kernel))
theorem dX12_asksFor_105 : decode cX12_asksFor 105 = .ok (.iload 5, 2) := dq_21 (a := 5) (fd_r fcX12_asksFor (by decide +kernel))
theorem dX12_asksFor_107 : decode cX12_asksFor 107 = .ok (.if_icmp .gt 6, 3) := dq_163 (a := 0) (b := 6) (fd_r fcX12_asksFor (by decide +kernel)) rfl
theorem dX12_asksFor_110 : decode cX12_asksFor 110 = .ok (.goto 11, 3) := dq_167 (a := 0) (b := 11) (fd_r fcX12_asksFor (by decide +kernel)) rfl
theorem dX12_asksFor_113 : decode cX12_asksFor 113 = .ok (.iload 6, 2) := dq_21 (a := 6) (fd_r fcX12_asksFor (by decide +kernel))
theorem dX12_asksFor_115 : decode cX12_asksFor 115 = .ok (.istore 4, 2) := dq_54 (a := 4) (fd_r fcX12_asksFor (by decide +kernel))
theorem dX12_asksFor_117 : decode cX12_asksFor 117 = .ok (.iload 7, 2) := dq_21 (a := 7) (fd_r fcX12_asksFor (by decide +kernel))
theorem dX12_asksFor_119 : decode cX12_asksFor 119 = .ok (.istore 5, 2) := dq_54 (a := 5) (fd_r fcX12_asksFor (by decide +kernel))
theorem dX12_asksFor_121 : decode cX12_asksFor 121 = .ok (.iinc 6 1, 3) := dq_132 (a := 6) (b := 1) (fd_r fcX12_asksFor (by decide +kernel)) rfl
theorem dX12_asksFor_124 : decode cX12_asksFor 124 = .ok (.goto (-80), 3) := dq_167 (a := 255) (b := 176) (fd_r fcX12_asksFor (by decide +kernel)) rfl
theorem dX12_asksFor_127 : decode cX12_asksFor 127 = .ok (.aload_n 0, 1) := dq_42 (fd_r fcX12_asksFor (by decide +kernel))
theorem dX12_asksFor_128 : decode cX12_asksFor 128 = .ok (.getfield 240, 3) := dq_180 (a := 0) (b := 240) (fd_r fcX12_asksFor (by decide +kernel)) rfl
theorem dX12_asksFor_131 : decode cX12_asksFor 131 = .ok (.iload_n 1, 1) := dq_27 (fd_r fcX12_asksFor (by decide +kernel))
theorem dX12_asksFor_132 : decode cX12_asksFor 132 = .ok (.aload_n 0, 1) := dq_42 (fd_r fcX12_asksFor (by decide +kernel))
theorem dX12_asksFor_133 : decode cX12_asksFor 133 = .ok (.getfield 236, 3) := dq_180 (a := 0) (b := 236) (fd_r fcX12_asksFor (by decide +kernel)) rfl
theorem dX12_asksFor_136 : decode cX12_asksFor 136 = .ok (.iconst 3, 1) := dq_6 (fd_r fcX12_asksFor (by decide +kernel))
theorem dX12_asksFor_137 : decode cX12_asksFor 137 = .ok (.ishl, 1) := dq_120 (fd_r fcX12_asksFor (by decide +kernel))
theorem dX12_asksFor_138 : decode cX12_asksFor 138 = .ok (.iload 4, 2) := dq_21 (a := 4) (fd_r fcX12_asksFor (by decide +kernel))
theorem dX12_asksFor_140 : decode cX12_asksFor 140 = .ok (.ior, 1) := dq_128 (fd_r fcX12_asksFor (by decide +kernel))
theorem dX12_asksFor_141 : decode cX12_asksFor 141 = .ok (.iastore, 1) := dq_79 (fd_r fcX12_asksFor (by decide +kernel))
theorem dX12_asksFor_142 : decode cX12_asksFor 142 = .ok (.iload 4, 2) := dq_21 (a := 4) (fd_r fcX12_asksFor (by decide +kernel))
theorem dX12_asksFor_144 : decode cX12_asksFor 144 = .ok (.ireturn, 1) := dq_172 (fd_r fcX12_asksFor (by decide +kernel))
theorem dX12_isDoor_0 : decode cX12_isDoor 0 = .ok (.iload_n 1, 1) := dq_27 (fd_r fcX12_isDoor (by decide +kernel))
theorem dX12_isDoor_1 : decode cX12_isDoor 1 = .ok (.invokestatic 547, 3) := dq_184 (a := 2) (b := 35) (fd_r fcX12_isDoor (by decide +kernel)) rfl
theorem dX12_isDoor_4 : decode cX12_isDoor 4 = .ok (.ifCond .eq 32, 3) := dq_153 (a := 0) (b := 32) (fd_r fcX12_isDoor (by decide +kernel)) rfl
theorem dX12_isDoor_7 : decode cX12_isDoor 7 = .ok (.aload_n 0, 1) := dq_42 (fd_r fcX12_isDoor (by decide +kernel))
theorem dX12_isDoor_8 : decode cX12_isDoor 8 = .ok (.iload_n 1, 1) := dq_27 (fd_r fcX12_isDoor (by decide +kernel))
theorem dX12_isDoor_9 : decode cX12_isDoor 9 = .ok (.invokevirtual 556, 3) := dq_182 (a := 2) (b := 44) (fd_r fcX12_isDoor (by decide +kernel)) rfl
theorem dX12_isDoor_12 : decode cX12_isDoor 12 = .ok (.iconst 4, 1) := dq_7 (fd_r fcX12_isDoor (by decide +kernel))
theorem dX12_isDoor_13 : decode cX12_isDoor 13 = .ok (.if_icmp .ne 23, 3) := dq_160 (a := 0) (b := 23) (fd_r fcX12_isDoor (by decide +kernel)) rfl
theorem dX12_isDoor_16 : decode cX12_isDoor 16 = .ok (.aload_n 0, 1) := dq_42 (fd_r fcX12_isDoor (by decide +kernel))
theorem dX12_isDoor_17 : decode cX12_isDoor 17 = .ok (.getfield 209, 3) := dq_180 (a := 0) (b := 209) (fd_r fcX12_isDoor (by decide +kernel)) rfl
theorem dX12_isDoor_20 : decode cX12_isDoor 20 = .ok (.iload_n 1, 1) := dq_27 (fd_r fcX12_isDoor (by decide +kernel))
theorem dX12_isDoor_21 : decode cX12_isDoor 21 = .ok (.invokestatic 547, 3) := dq_184 (a := 2) (b := 35) (fd_r fcX12_isDoor (by decide +kernel)) rfl
theorem dX12_isDoor_24 : decode cX12_isDoor 24 = .ok (.invokestatic 495, 3) := dq_184 (a := 1) (b := 239) (fd_r fcX12_isDoor (by decide +kernel)) rfl
theorem dX12_isDoor_27 : decode cX12_isDoor 27 = .ok (.iaload, 1) := dq_46 (fd_r fcX12_isDoor (by decide +kernel))
theorem dX12_isDoor_28 : decode cX12_isDoor 28 = .ok (.iconst (-1), 1) := dq_2 (fd_r fcX12_isDoor (by decide +kernel))
theorem dX12_isDoor_29 : decode cX12_isDoor 29 = .ok (.if_icmp .eq 7, 3) := dq_159 (a := 0) (b := 7) (fd_r fcX12_isDoor (by decide +kernel)) rfl
theorem dX12_isDoor_32 : decode cX12_isDoor 32 = .ok (.iconst 1, 1) := dq_4 (fd_r fcX12_isDoor (by decide +kernel))
theorem dX12_isDoor_33 : decode cX12_isDoor 33 = .ok (.goto 4, 3) := dq_167 (a := 0) (b := 4) (fd_r fcX12_isDoor (by decide +kernel)) rfl
theorem dX12_isDoor_36 : decode cX12_isDoor 36 = .ok (.iconst 0, 1) := dq_3 (fd_r fcX12_isDoor (by decide +kernel))
theorem dX12_isDoor_37 : decode cX12_isDoor 37 = .ok (.ireturn, 1) := dq_172 (fd_r fcX12_isDoor (by decide +kernel))
theorem dX12_throughDoor_0 : decode cX12_throughDoor 0 = .ok (.iload_n 0, 1) := dq_26 (fd_r fcX12_throughDoor (by decide +kernel))
theorem dX12_throughDoor_1 : decode cX12_throughDoor 1 = .ok (.invokestatic 547, 3) := dq_184 (a := 2) (b := 35) (fd_r fcX12_throughDoor (by decide +kernel)) rfl
theorem dX12_throughDoor_4 : decode cX12_throughDoor 4 = .ok (.iload_n 0, 1) := dq_26 (fd_r fcX12_throughDoor (by decide +kernel))
theorem dX12_throughDoor_5 : decode cX12_throughDoor 5 = .ok (.invokestatic 547, 3) := dq_184 (a := 2) (b := 35) (fd_r fcX12_throughDoor (by decide +kernel)) rfl
theorem dX12_throughDoor_8 : decode cX12_throughDoor 8 = .ok (.iconst 1, 1) := dq_4 (fd_r fcX12_throughDoor (by decide +kernel))
theorem dX12_throughDoor_9 : decode cX12_throughDoor 9 = .ok (.isub, 1) := dq_100 (fd_r fcX12_throughDoor (by decide +kernel))
theorem dX12_throughDoor_10 : decode cX12_throughDoor 10 = .ok (.iand, 1) := dq_126 (fd_r fcX12_throughDoor (by decide +kernel))
theorem dX12_throughDoor_11 : decode cX12_throughDoor 11 = .ok (.iload_n 0, 1) := dq_26 (fd_r fcX12_throughDoor (by decide +kernel))
theorem dX12_throughDoor_12 : decode cX12_throughDoor 12 = .ok (.invokestatic 550, 3) := dq_184 (a := 2) (b := 38) (fd_r fcX12_throughDoor (by decide +kernel)) rfl
theorem dX12_throughDoor_15 : decode cX12_throughDoor 15 = .ok (.invokestatic 559, 3) := dq_184 (a := 2) (b := 47) (fd_r fcX12_throughDoor (by decide +kernel)) rfl
theorem dX12_throughDoor_18 : decode cX12_throughDoor 18 = .ok (.ireturn, 1) := dq_172 (fd_r fcX12_throughDoor (by decide +kernel))
theorem dX12_branchOf_0 : decode cX12_branchOf 0 = .ok (.iload_n 1, 1) := dq_27 (fd_r fcX12_branchOf (by decide +kernel))
theorem dX12_branchOf_1 : decode cX12_branchOf 1 = .ok (.invokestatic 547, 3) := dq_184 (a := 2) (b := 35) (fd_r fcX12_branchOf (by decide +kernel)) rfl
theorem dX12_branchOf_4 : decode cX12_branchOf 4 = .ok (.iload_n 3, 1) := dq_29 (fd_r fcX12_branchOf (by decide +kernel))
theorem dX12_branchOf_5 : decode cX12_branchOf 5 = .ok (.iand, 1) := dq_126 (fd_r fcX12_branchOf (by decide +kernel))
theorem dX12_branchOf_6 : decode cX12_branchOf 6 = .ok (.iload_n 1, 1) := dq_27 (fd_r fcX12_branchOf (by decide +kernel))
theorem dX12_branchOf_7 : decode cX12_branchOf 7 = .ok (.invokestatic 550, 3) := dq_184 (a := 2) (b := 38) (fd_r fcX12_branchOf (by decide +kernel)) rfl
theorem dX12_branchOf_10 : decode cX12_branchOf 10 = .ok (.iconst 1, 1) := dq_4 (fd_r fcX12_branchOf (by decide +kernel))
theorem dX12_branchOf_11 : decode cX12_branchOf 11 = .ok (.iload_n 2, 1) := dq_28 (fd_r fcX12_branchOf (by decide +kernel))
theorem dX12_branchOf_12 : decode cX12_branchOf 12 = .ok (.ishl, 1) := dq_120 (fd_r fcX12_branchOf (by decide +kernel))
theorem dX12_branchOf_13 : decode cX12_branchOf 13 = .ok (.iconst (-1), 1) := dq_2 (fd_r fcX12_branchOf (by decide +kernel))
theorem dX12_branchOf_14 : decode cX12_branchOf 14 = .ok (.ixor, 1) := dq_130 (fd_r fcX12_branchOf (by decide +kernel))
theorem dX12_branchOf_15 : decode cX12_branchOf 15 = .ok (.iand, 1) := dq_126 (fd_r fcX12_branchOf (by decide +kernel))
theorem dX12_branchOf_16 : decode cX12_branchOf 16 = .ok (.invokestatic 559, 3) := dq_184 (a := 2) (b := 47) (fd_r fcX12_branchOf (by decide +kernel)) rfl
theorem dX12_branchOf_19 : decode cX12_branchOf 19 = .ok (.ireturn, 1) := dq_172 (fd_r fcX12_branchOf (by decide +kernel))
theorem dX12_root_0 : decode cX12_root 0 = .ok (.iconst 1, 1) := dq_4 (fd_r fcX12_root (by decide +kernel))
theorem dX12_root_1 : decode cX12_root 1 = .ok (.aload_n 0, 1) := dq_42 (fd_r fcX12_root (by decide +kernel))
theorem dX12_root_2 : decode cX12_root 2 = .ok (.getfield 200, 3) := dq_180 (a := 0) (b := 200) (fd_r fcX12_root (by decide +kernel)) rfl
theorem dX12_root_5 : decode cX12_root 5 = .ok (.ishl, 1) := dq_120 (fd_r fcX12_root (by decide +kernel))
theorem dX12_root_6 : decode cX12_root 6 = .ok (.iconst 1, 1) := dq_4 (fd_r fcX12_root (by decide +kernel))
theorem dX12_root_7 : decode cX12_root 7 = .ok (.isub, 1) := dq_100 (fd_r fcX12_root (by decide +kernel))
theorem dX12_root_8 : decode cX12_root 8 = .ok (.iconst 1, 1) := dq_4 (fd_r fcX12_root (by decide +kernel))
theorem dX12_root_9 : decode cX12_root 9 = .ok (.aload_n 0, 1) := dq_42 (fd_r fcX12_root (by decide +kernel))
theorem dX12_root_10 : decode cX12_root 10 = .ok (.invokevirtual 459, 3) := dq_182 (a := 1) (b := 203) (fd_r fcX12_root (by decide +kernel)) rfl
theorem dX12_root_13 : decode cX12_root 13 = .ok (.ishl, 1) := dq_120 (fd_r fcX12_root (by decide +kernel))
theorem dX12_root_14 : decode cX12_root 14 = .ok (.iconst 1, 1) := dq_4 (fd_r fcX12_root (by decide +kernel))
theorem dX12_root_15 : decode cX12_root 15 = .ok (.isub, 1) := dq_100 (fd_r fcX12_root (by decide +kernel))
theorem dX12_root_16 : decode cX12_root 16 = .ok (.invokestatic 559, 3) := dq_184 (a := 2) (b := 47) (fd_r fcX12_root (by decide +kernel)) rfl
theorem dX12_root_19 : decode cX12_root 19 = .ok (.ireturn, 1) := dq_172 (fd_r fcX12_root (by decide +kernel))
theorem dX12_plants_0 : decode cX12_plants 0 = .ok (.aload_n 0, 1) := dq_42 (fd_r fcX12_plants (by decide +kernel))
theorem dX12_plants_1 : decode cX12_plants 1 = .ok (.iload_n 1, 1) := dq_27 (fd_r fcX12_plants (by decide +kernel))
theorem dX12_plants_2 : decode cX12_plants 2 = .ok (.invokevirtual 501, 3) := dq_182 (a := 1) (b := 245) (fd_r fcX12_plants (by decide +kernel)) rfl
theorem dX12_plants_5 : decode cX12_plants 5 = .ok (.aload_n 0, 1) := dq_42 (fd_r fcX12_plants (by decide +kernel))
theorem dX12_plants_6 : decode cX12_plants 6 = .ok (.iload_n 2, 1) := dq_28 (fd_r fcX12_plants (by decide +kernel))
theorem dX12_plants_7 : decode cX12_plants 7 = .ok (.putfield 243, 3) := dq_181 (a := 0) (b := 243) (fd_r fcX12_plants (by decide +kernel)) rfl
theorem dX12_plants_10 : decode cX12_plants 10 = .ok (.return_, 1) := dq_177 (fd_r fcX12_plants (by decide +kernel))
theorem dX12_testsFor_0 : decode cX12_testsFor 0 = .ok (.aload_n 0, 1) := dq_42 (fd_r fcX12_testsFor (by decide +kernel))
theorem dX12_testsFor_1 : decode cX12_testsFor 1 = .ok (.iload_n 1, 1) := dq_27 (fd_r fcX12_testsFor (by decide +kernel))
theorem dX12_testsFor_2 : decode cX12_testsFor 2 = .ok (.invokevirtual 478, 3) := dq_182 (a := 1) (b := 222) (fd_r fcX12_testsFor (by decide +kernel)) rfl
theorem dX12_testsFor_5 : decode cX12_testsFor 5 = .ok (.aload_n 0, 1) := dq_42 (fd_r fcX12_testsFor (by decide +kernel))
theorem dX12_testsFor_6 : decode cX12_testsFor 6 = .ok (.invokevirtual 562, 3) := dq_182 (a := 2) (b := 50) (fd_r fcX12_testsFor (by decide +kernel)) rfl
theorem dX12_testsFor_9 : decode cX12_testsFor 9 = .ok (.istore_n 3, 1) := dq_62 (fd_r fcX12_testsFor (by decide +kernel))
theorem dX12_testsFor_10 : decode cX12_testsFor 10 = .ok (.iconst 0, 1) := dq_3 (fd_r fcX12_testsFor (by decide +kernel))
theorem dX12_testsFor_11 : decode cX12_testsFor 11 = .ok (.istore 4, 2) := dq_54 (a := 4) (fd_r fcX12_testsFor (by decide +kernel))
theorem dX12_testsFor_13 : decode cX12_testsFor 13 = .ok (.iload_n 3, 1) := dq_29 (fd_r fcX12_testsFor (by decide +kernel))
theorem dX12_testsFor_14 : decode cX12_testsFor 14 = .ok (.invokestatic 547, 3) := dq_184 (a := 2) (b := 35) (fd_r fcX12_testsFor (by decide +kernel)) rfl
theorem dX12_testsFor_17 : decode cX12_testsFor 17 = .ok (.ifCond .eq 69, 3) := dq_153 (a := 0) (b := 69) (fd_r fcX12_testsFor (by decide +kernel)) rfl
theorem dX12_testsFor_20 : decode cX12_testsFor 20 = .ok (.aload_n 0, 1) := dq_42 (fd_r fcX12_testsFor (by decide +kernel))
theorem dX12_testsFor_21 : decode cX12_testsFor 21 = .ok (.iload_n 3, 1) := dq_29 (fd_r fcX12_testsFor (by decide +kernel))
theorem dX12_testsFor_22 : decode cX12_testsFor 22 = .ok (.invokevirtual 556, 3) := dq_182 (a := 2) (b := 44) (fd_r fcX12_testsFor (by decide +kernel)) rfl
theorem dX12_testsFor_25 : decode cX12_testsFor 25 = .ok (.istore 5, 2) := dq_54 (a := 5) (fd_r fcX12_testsFor (by decide +kernel))
theorem dX12_testsFor_27 : decode cX12_testsFor 27 = .ok (.iload 5, 2) := dq_21 (a := 5) (fd_r fcX12_testsFor (by decide +kernel))
theorem dX12_testsFor_29 : decode cX12_testsFor 29 = .ok (.iconst 4, 1) := dq_7 (fd_r fcX12_testsFor (by decide +kernel))
theorem dX12_testsFor_30 : decode cX12_testsFor 30 = .ok (.if_icmp .ne 29, 3) := dq_160 (a := 0) (b := 29) (fd_r fcX12_testsFor (by decide +kernel)) rfl
theorem dX12_testsFor_33 : decode cX12_testsFor 33 = .ok (.iload_n 2, 1) := dq_28 (fd_r fcX12_testsFor (by decide +kernel))
theorem dX12_testsFor_34 : decode cX12_testsFor 34 = .ok (.iload_n 3, 1) := dq_29 (fd_r fcX12_testsFor (by decide +kernel))
theorem dX12_testsFor_35 : decode cX12_testsFor 35 = .ok (.invokestatic 547, 3) := dq_184 (a := 2) (b := 35) (fd_r fcX12_testsFor (by decide +kernel)) rfl
theorem dX12_testsFor_38 : decode cX12_testsFor 38 = .ok (.invokestatic 495, 3) := dq_184 (a := 1) (b := 239) (fd_r fcX12_testsFor (by decide +kernel)) rfl
theorem dX12_testsFor_41 : decode cX12_testsFor 41 = .ok (.ishr, 1) := dq_122 (fd_r fcX12_testsFor (by decide +kernel))
theorem dX12_testsFor_42 : decode cX12_testsFor 42 = .ok (.iconst 1, 1) := dq_4 (fd_r fcX12_testsFor (by decide +kernel))
theorem dX12_testsFor_43 : decode cX12_testsFor 43 = .ok (.iand, 1) := dq_126 (fd_r fcX12_testsFor (by decide +kernel))
theorem dX12_testsFor_44 : decode cX12_testsFor 44 = .ok (.iconst 1, 1) := dq_4 (fd_r fcX12_testsFor (by decide +kernel))
theorem dX12_testsFor_45 : decode cX12_testsFor 45 = .ok (.if_icmp .ne 6, 3) := dq_160 (a := 0) (b := 6) (fd_r fcX12_testsFor (by decide +kernel)) rfl
theorem dX12_testsFor_48 : decode cX12_testsFor 48 = .ok (.iload 4, 2) := dq_21 (a := 4) (fd_r fcX12_testsFor (by decide +kernel))
theorem dX12_testsFor_50 : decode cX12_testsFor 50 = .ok (.ireturn, 1) := dq_172 (fd_r fcX12_testsFor (by decide +kernel))
theorem dX12_testsFor_51 : decode cX12_testsFor 51 = .ok (.iload_n 3, 1) := dq_29 (fd_r fcX12_testsFor (by decide +kernel))
theorem dX12_testsFor_52 : decode cX12_testsFor 52 = .ok (.invokestatic 565, 3) := dq_184 (a := 2) (b := 53) (fd_r fcX12_testsFor (by decide +kernel)) rfl
theorem dX12_testsFor_55 : decode cX12_testsFor 55 = .ok (.istore_n 3, 1) := dq_62 (fd_r fcX12_testsFor (by decide +kernel))
theorem dX12_testsFor_56 : decode cX12_testsFor 56 = .ok (.goto (-43), 3) := dq_167 (a := 255) (b := 213) (fd_r fcX12_testsFor (by decide +kernel)) rfl
theorem dX12_testsFor_59 : decode cX12_testsFor 59 = .ok (.iinc 4 1, 3) := dq_132 (a := 4) (b := 1) (fd_r fcX12_testsFor (by decide +kernel)) rfl
theorem dX12_testsFor_62 : decode cX12_testsFor 62 = .ok (.aload_n 0, 1) := dq_42 (fd_r fcX12_testsFor (by decide +kernel))
theorem dX12_testsFor_63 : decode cX12_testsFor 63 = .ok (.iload_n 3, 1) := dq_29 (fd_r fcX12_testsFor (by decide +kernel))
theorem dX12_testsFor_64 : decode cX12_testsFor 64 = .ok (.iload 5, 2) := dq_21 (a := 5) (fd_r fcX12_testsFor (by decide +kernel))
theorem dX12_testsFor_66 : decode cX12_testsFor 66 = .ok (.aload_n 0, 1) := dq_42 (fd_r fcX12_testsFor (by decide +kernel))
theorem dX12_testsFor_67 : decode cX12_testsFor 67 = .ok (.iload 5, 2) := dq_21 (a := 5) (fd_r fcX12_testsFor (by decide +kernel))
theorem dX12_testsFor_69 : decode cX12_testsFor 69 = .ok (.aload_n 0, 1) := dq_42 (fd_r fcX12_testsFor (by decide +kernel))
theorem dX12_testsFor_70 : decode cX12_testsFor 70 = .ok (.getfield 215, 3) := dq_180 (a := 0) (b := 215) (fd_r fcX12_testsFor (by decide +kernel)) rfl
theorem dX12_testsFor_73 : decode cX12_testsFor 73 = .ok (.iload 5, 2) := dq_21 (a := 5) (fd_r fcX12_testsFor (by decide +kernel))
theorem dX12_testsFor_75 : decode cX12_testsFor 75 = .ok (.iaload, 1) := dq_46 (fd_r fcX12_testsFor (by decide +kernel))
theorem dX12_testsFor_76 : decode cX12_testsFor 76 = .ok (.invokevirtual 481, 3) := dq_182 (a := 1) (b := 225) (fd_r fcX12_testsFor (by decide +kernel)) rfl
theorem dX12_testsFor_79 : decode cX12_testsFor 79 = .ok (.invokevirtual 568, 3) := dq_182 (a := 2) (b := 56) (fd_r fcX12_testsFor (by decide +kernel)) rfl
theorem dX12_testsFor_82 : decode cX12_testsFor 82 = .ok (.istore_n 3, 1) := dq_62 (fd_r fcX12_testsFor (by decide +kernel))
theorem dX12_testsFor_83 : decode cX12_testsFor 83 = .ok (.goto (-70), 3) := dq_167 (a := 255) (b := 186) (fd_r fcX12_testsFor (by decide +kernel)) rfl
theorem dX12_testsFor_86 : decode cX12_testsFor 86 = .ok (.iload 4, 2) := dq_21 (a := 4) (fd_r fcX12_testsFor (by decide +kernel))
theorem dX12_testsFor_88 : decode cX12_testsFor 88 = .ok (.ireturn, 1) := dq_172 (fd_r fcX12_testsFor (by decide +kernel))
theorem dX12_allTests_0 : decode cX12_allTests 0 = .ok (.aload_n 0, 1) := dq_42 (fd_r fcX12_allTests (by decide +kernel))
theorem dX12_allTests_1 : decode cX12_allTests 1 = .ok (.aload_n 0, 1) := dq_42 (fd_r fcX12_allTests (by decide +kernel))
theorem dX12_allTests_2 : decode cX12_allTests 2 = .ok (.getfield 179, 3) := dq_180 (a := 0) (b := 179) (fd_r fcX12_allTests (by decide +kernel)) rfl
theorem dX12_allTests_5 : decode cX12_allTests 5 = .ok (.iload_n 1, 1) := dq_27 (fd_r fcX12_allTests (by decide +kernel))
theorem dX12_allTests_6 : decode cX12_allTests 6 = .ok (.iaload, 1) := dq_46 (fd_r fcX12_allTests (by decide +kernel))
theorem dX12_allTests_7 : decode cX12_allTests 7 = .ok (.invokevirtual 492, 3) := dq_182 (a := 1) (b := 236) (fd_r fcX12_allTests (by decide +kernel)) rfl
theorem dX12_allTests_10 : decode cX12_allTests 10 = .ok (.istore_n 2, 1) := dq_61 (fd_r fcX12_allTests (by decide +kernel))
theorem dX12_allTests_11 : decode cX12_allTests 11 = .ok (.iconst 0, 1) := dq_3 (fd_r fcX12_allTests (by decide +kernel))
theorem dX12_allTests_12 : decode cX12_allTests 12 = .ok (.istore_n 3, 1) := dq_62 (fd_r fcX12_allTests (by decide +kernel))
theorem dX12_allTests_13 : decode cX12_allTests 13 = .ok (.iconst 0, 1) := dq_3 (fd_r fcX12_allTests (by decide +kernel))
theorem dX12_allTests_14 : decode cX12_allTests 14 = .ok (.istore 4, 2) := dq_54 (a := 4) (fd_r fcX12_allTests (by decide +kernel))
theorem dX12_allTests_16 : decode cX12_allTests 16 = .ok (.iload 4, 2) := dq_21 (a := 4) (fd_r fcX12_allTests (by decide +kernel))
theorem dX12_allTests_18 : decode cX12_allTests 18 = .ok (.aload_n 0, 1) := dq_42 (fd_r fcX12_allTests (by decide +kernel))
theorem dX12_allTests_19 : decode cX12_allTests 19 = .ok (.getfield 170, 3) := dq_180 (a := 0) (b := 170) (fd_r fcX12_allTests (by decide +kernel)) rfl
theorem dX12_allTests_22 : decode cX12_allTests 22 = .ok (.if_icmp .ge 19, 3) := dq_162 (a := 0) (b := 19) (fd_r fcX12_allTests (by decide +kernel)) rfl
theorem dX12_allTests_25 : decode cX12_allTests 25 = .ok (.iload_n 3, 1) := dq_29 (fd_r fcX12_allTests (by decide +kernel))
theorem dX12_allTests_26 : decode cX12_allTests 26 = .ok (.aload_n 0, 1) := dq_42 (fd_r fcX12_allTests (by decide +kernel))
theorem dX12_allTests_27 : decode cX12_allTests 27 = .ok (.iload 4, 2) := dq_21 (a := 4) (fd_r fcX12_allTests (by decide +kernel))
theorem dX12_allTests_29 : decode cX12_allTests 29 = .ok (.iload_n 2, 1) := dq_28 (fd_r fcX12_allTests (by decide +kernel))
theorem dX12_allTests_30 : decode cX12_allTests 30 = .ok (.invokevirtual 571, 3) := dq_182 (a := 2) (b := 59) (fd_r fcX12_allTests (by decide +kernel)) rfl
theorem dX12_allTests_33 : decode cX12_allTests 33 = .ok (.iadd, 1) := dq_96 (fd_r fcX12_allTests (by decide +kernel))
theorem dX12_allTests_34 : decode cX12_allTests 34 = .ok (.istore_n 3, 1) := dq_62 (fd_r fcX12_allTests (by decide +kernel))
theorem dX12_allTests_35 : decode cX12_allTests 35 = .ok (.iinc 4 1, 3) := dq_132 (a := 4) (b := 1) (fd_r fcX12_allTests (by decide +kernel)) rfl
theorem dX12_allTests_38 : decode cX12_allTests 38 = .ok (.goto (-22), 3) := dq_167 (a := 255) (b := 234) (fd_r fcX12_allTests (by decide +kernel)) rfl
theorem dX12_allTests_41 : decode cX12_allTests 41 = .ok (.iload_n 3, 1) := dq_29 (fd_r fcX12_allTests (by decide +kernel))
theorem dX12_allTests_42 : decode cX12_allTests 42 = .ok (.ireturn, 1) := dq_172 (fd_r fcX12_allTests (by decide +kernel))
theorem dX12_reaches_0 : decode cX12_reaches 0 = .ok (.aload_n 0, 1) := dq_42 (fd_r fcX12_reaches (by decide +kernel))
theorem dX12_reaches_1 : decode cX12_reaches 1 = .ok (.getfield 252, 3) := dq_180 (a := 0) (b := 252) (fd_r fcX12_reaches (by decide +kernel)) rfl
theorem dX12_reaches_4 : decode cX12_reaches 4 = .ok (.iload_n 1, 1) := dq_27 (fd_r fcX12_reaches (by decide +kernel))
theorem dX12_reaches_5 : decode cX12_reaches 5 = .ok (.iaload, 1) := dq_46 (fd_r fcX12_reaches (by decide +kernel))
theorem dX12_reaches_6 : decode cX12_reaches 6 = .ok (.aload_n 0, 1) := dq_42 (fd_r fcX12_reaches (by decide +kernel))
theorem dX12_reaches_7 : decode cX12_reaches 7 = .ok (.getfield 236, 3) := dq_180 (a := 0) (b := 236) (fd_r fcX12_reaches (by decide +kernel)) rfl
theorem dX12_reaches_10 : decode cX12_reaches 10 = .ok (.if_icmp .ne 4, 3) := dq_160 (a := 0) (b := 4) (fd_r fcX12_reaches (by decide +kernel)) rfl
theorem dX12_reaches_13 : decode cX12_reaches 13 = .ok (.return_, 1) := dq_177 (fd_r fcX12_reaches (by decide +kernel))
theorem dX12_reaches_14 : decode cX12_reaches 14 = .ok (.aload_n 0, 1) := dq_42 (fd_r fcX12_reaches (by decide +kernel))
theorem dX12_reaches_15 : decode cX12_reaches 15 = .ok (.getfield 252, 3) := dq_180 (a := 0) (b := 252) (fd_r fcX12_reaches (by decide +kernel)) rfl
theorem dX12_reaches_18 : decode cX12_reaches 18 = .ok (.iload_n 1, 1) := dq_27 (fd_r fcX12_reaches (by decide +kernel))
theorem dX12_reaches_19 : decode cX12_reaches 19 = .ok (.aload_n 0, 1) := dq_42 (fd_r fcX12_reaches (by decide +kernel))
theorem dX12_reaches_20 : decode cX12_reaches 20 = .ok (.getfield 236, 3) := dq_180 (a := 0) (b := 236) (fd_r fcX12_reaches (by decide +kernel)) rfl
theorem dX12_reaches_23 : decode cX12_reaches 23 = .ok (.iastore, 1) := dq_79 (fd_r fcX12_reaches (by decide +kernel))
theorem dX12_reaches_24 : decode cX12_reaches 24 = .ok (.aload_n 0, 1) := dq_42 (fd_r fcX12_reaches (by decide +kernel))
theorem dX12_reaches_25 : decode cX12_reaches 25 = .ok (.getfield 255, 3) := dq_180 (a := 0) (b := 255) (fd_r fcX12_reaches (by decide +kernel)) rfl
theorem dX12_reaches_28 : decode cX12_reaches 28 = .ok (.aload_n 0, 1) := dq_42 (fd_r fcX12_reaches (by decide +kernel))
theorem dX12_reaches_29 : decode cX12_reaches 29 = .ok (.getfield 258, 3) := dq_180 (a := 1) (b := 2) (fd_r fcX12_reaches (by decide +kernel)) rfl
theorem dX12_reaches_32 : decode cX12_reaches 32 = .ok (.iload_n 1, 1) := dq_27 (fd_r fcX12_reaches (by decide +kernel))
theorem dX12_reaches_33 : decode cX12_reaches 33 = .ok (.iastore, 1) := dq_79 (fd_r fcX12_reaches (by decide +kernel))
theorem dX12_reaches_34 : decode cX12_reaches 34 = .ok (.aload_n 0, 1) := dq_42 (fd_r fcX12_reaches (by decide +kernel))
theorem dX12_reaches_35 : decode cX12_reaches 35 = .ok (.dup, 1) := dq_89 (fd_r fcX12_reaches (by decide +kernel))
theorem dX12_reaches_36 : decode cX12_reaches 36 = .ok (.getfield 258, 3) := dq_180 (a := 1) (b := 2) (fd_r fcX12_reaches (by decide +kernel)) rfl
theorem dX12_reaches_39 : decode cX12_reaches 39 = .ok (.iconst 1, 1) := dq_4 (fd_r fcX12_reaches (by decide +kernel))
theorem dX12_reaches_40 : decode cX12_reaches 40 = .ok (.iadd, 1) := dq_96 (fd_r fcX12_reaches (by decide +kernel))
theorem dX12_reaches_41 : decode cX12_reaches 41 = .ok (.putfield 258, 3) := dq_181 (a := 1) (b := 2) (fd_r fcX12_reaches (by decide +kernel)) rfl
theorem dX12_reaches_44 : decode cX12_reaches 44 = .ok (.return_, 1) := dq_177 (fd_r fcX12_reaches (by decide +kernel))
theorem dX12_grows_0 : decode cX12_grows 0 = .ok (.aload_n 0, 1) := dq_42 (fd_r fcX12_grows (by decide +kernel))
theorem dX12_grows_1 : decode cX12_grows 1 = .ok (.iconst 0, 1) := dq_3 (fd_r fcX12_grows (by decide +kernel))
theorem dX12_grows_2 : decode cX12_grows 2 = .ok (.putfield 258, 3) := dq_181 (a := 1) (b := 2) (fd_r fcX12_grows (by decide +kernel)) rfl
theorem dX12_grows_5 : decode cX12_grows 5 = .ok (.aload_n 0, 1) := dq_42 (fd_r fcX12_grows (by decide +kernel))
theorem dX12_grows_6 : decode cX12_grows 6 = .ok (.aload_n 0, 1) := dq_42 (fd_r fcX12_grows (by decide +kernel))
theorem dX12_grows_7 : decode cX12_grows 7 = .ok (.invokevirtual 562, 3) := dq_182 (a := 2) (b := 50) (fd_r fcX12_grows (by decide +kernel)) rfl
theorem dX12_grows_10 : decode cX12_grows 10 = .ok (.invokevirtual 574, 3) := dq_182 (a := 2) (b := 62) (fd_r fcX12_grows (by decide +kernel)) rfl
theorem dX12_grows_13 : decode cX12_grows 13 = .ok (.iconst 0, 1) := dq_3 (fd_r fcX12_grows (by decide +kernel))
theorem dX12_grows_14 : decode cX12_grows 14 = .ok (.istore_n 1, 1) := dq_60 (fd_r fcX12_grows (by decide +kernel))
theorem dX12_grows_15 : decode cX12_grows 15 = .ok (.iload_n 1, 1) := dq_27 (fd_r fcX12_grows (by decide +kernel))
theorem dX12_grows_16 : decode cX12_grows 16 = .ok (.aload_n 0, 1) := dq_42 (fd_r fcX12_grows (by decide +kernel))
theorem dX12_grows_17 : decode cX12_grows 17 = .ok (.getfield 258, 3) := dq_180 (a := 1) (b := 2) (fd_r fcX12_grows (by decide +kernel)) rfl
theorem dX12_grows_20 : decode cX12_grows 20 = .ok (.if_icmp .ge 89, 3) := dq_162 (a := 0) (b := 89) (fd_r fcX12_grows (by decide +kernel)) rfl
theorem dX12_grows_23 : decode cX12_grows 23 = .ok (.aload_n 0, 1) := dq_42 (fd_r fcX12_grows (by decide +kernel))
theorem dX12_grows_24 : decode cX12_grows 24 = .ok (.getfield 255, 3) := dq_180 (a := 0) (b := 255) (fd_r fcX12_grows (by decide +kernel)) rfl
theorem dX12_grows_27 : decode cX12_grows 27 = .ok (.iload_n 1, 1) := dq_27 (fd_r fcX12_grows (by decide +kernel))
theorem dX12_grows_28 : decode cX12_grows 28 = .ok (.iaload, 1) := dq_46 (fd_r fcX12_grows (by decide +kernel))
theorem dX12_grows_29 : decode cX12_grows 29 = .ok (.istore_n 2, 1) := dq_61 (fd_r fcX12_grows (by decide +kernel))
theorem dX12_grows_30 : decode cX12_grows 30 = .ok (.aload_n 0, 1) := dq_42 (fd_r fcX12_grows (by decide +kernel))
theorem dX12_grows_31 : decode cX12_grows 31 = .ok (.iload_n 2, 1) := dq_28 (fd_r fcX12_grows (by decide +kernel))
theorem dX12_grows_32 : decode cX12_grows 32 = .ok (.invokevirtual 556, 3) := dq_182 (a := 2) (b := 44) (fd_r fcX12_grows (by decide +kernel)) rfl
theorem dX12_grows_35 : decode cX12_grows 35 = .ok (.istore_n 3, 1) := dq_62 (fd_r fcX12_grows (by decide +kernel))
theorem dX12_grows_36 : decode cX12_grows 36 = .ok (.iload_n 3, 1) := dq_29 (fd_r fcX12_grows (by decide +kernel))
theorem dX12_grows_37 : decode cX12_grows 37 = .ok (.iconst 4, 1) := dq_7 (fd_r fcX12_grows (by decide +kernel))
theorem dX12_grows_38 : decode cX12_grows 38 = .ok (.if_icmp .ne 22, 3) := dq_160 (a := 0) (b := 22) (fd_r fcX12_grows (by decide +kernel)) rfl
theorem dX12_grows_41 : decode cX12_grows 41 = .ok (.aload_n 0, 1) := dq_42 (fd_r fcX12_grows (by decide +kernel))
theorem dX12_grows_42 : decode cX12_grows 42 = .ok (.iload_n 2, 1) := dq_28 (fd_r fcX12_grows (by decide +kernel))
theorem dX12_grows_43 : decode cX12_grows 43 = .ok (.invokevirtual 577, 3) := dq_182 (a := 2) (b := 65) (fd_r fcX12_grows (by decide +kernel)) rfl
theorem dX12_grows_46 : decode cX12_grows 46 = .ok (.ifCond .eq 57, 3) := dq_153 (a := 0) (b := 57) (fd_r fcX12_grows (by decide +kernel)) rfl
theorem dX12_grows_49 : decode cX12_grows 49 = .ok (.aload_n 0, 1) := dq_42 (fd_r fcX12_grows (by decide +kernel))
theorem dX12_grows_50 : decode cX12_grows 50 = .ok (.iload_n 2, 1) := dq_28 (fd_r fcX12_grows (by decide +kernel))
theorem dX12_grows_51 : decode cX12_grows 51 = .ok (.invokestatic 565, 3) := dq_184 (a := 2) (b := 53) (fd_r fcX12_grows (by decide +kernel)) rfl
theorem dX12_grows_54 : decode cX12_grows 54 = .ok (.invokevirtual 574, 3) := dq_182 (a := 2) (b := 62) (fd_r fcX12_grows (by decide +kernel)) rfl
theorem dX12_grows_57 : decode cX12_grows 57 = .ok (.goto 46, 3) := dq_167 (a := 0) (b := 46) (fd_r fcX12_grows (by decide +kernel)) rfl
theorem dX12_grows_60 : decode cX12_grows 60 = .ok (.iconst 0, 1) := dq_3 (fd_r fcX12_grows (by decide +kernel))
theorem dX12_grows_61 : decode cX12_grows 61 = .ok (.istore 4, 2) := dq_54 (a := 4) (fd_r fcX12_grows (by decide +kernel))
theorem dX12_grows_63 : decode cX12_grows 63 = .ok (.iload 4, 2) := dq_21 (a := 4) (fd_r fcX12_grows (by decide +kernel))
theorem dX12_grows_65 : decode cX12_grows 65 = .ok (.aload_n 0, 1) := dq_42 (fd_r fcX12_grows (by decide +kernel))
theorem dX12_grows_66 : decode cX12_grows 66 = .ok (.getfield 164, 3) := dq_180 (a := 0) (b := 164) (fd_r fcX12_grows (by decide +kernel)) rfl
theorem dX12_grows_69 : decode cX12_grows 69 = .ok (.iload_n 3, 1) := dq_29 (fd_r fcX12_grows (by decide +kernel))
theorem dX12_grows_70 : decode cX12_grows 70 = .ok (.iaload, 1) := dq_46 (fd_r fcX12_grows (by decide +kernel))
theorem dX12_grows_71 : decode cX12_grows 71 = .ok (.if_icmp .ge 32, 3) := dq_162 (a := 0) (b := 32) (fd_r fcX12_grows (by decide +kernel)) rfl
theorem dX12_grows_74 : decode cX12_grows 74 = .ok (.aload_n 0, 1) := dq_42 (fd_r fcX12_grows (by decide +kernel))
theorem dX12_grows_75 : decode cX12_grows 75 = .ok (.aload_n 0, 1) := dq_42 (fd_r fcX12_grows (by decide +kernel))
theorem dX12_grows_76 : decode cX12_grows 76 = .ok (.iload_n 2, 1) := dq_28 (fd_r fcX12_grows (by decide +kernel))
theorem dX12_grows_77 : decode cX12_grows 77 = .ok (.iload_n 3, 1) := dq_29 (fd_r fcX12_grows (by decide +kernel))
theorem dX12_grows_78 : decode cX12_grows 78 = .ok (.aload_n 0, 1) := dq_42 (fd_r fcX12_grows (by decide +kernel))
theorem dX12_grows_79 : decode cX12_grows 79 = .ok (.getfield 203, 3) := dq_180 (a := 0) (b := 203) (fd_r fcX12_grows (by decide +kernel)) rfl
theorem dX12_grows_82 : decode cX12_grows 82 = .ok (.sipush 2010, 3) := dq_17 (a := 7) (b := 218) (fd_r fcX12_grows (by decide +kernel)) rfl
theorem dX12_grows_85 : decode cX12_grows 85 = .ok (.iload_n 3, 1) := dq_29 (fd_r fcX12_grows (by decide +kernel))
theorem dX12_grows_86 : decode cX12_grows 86 = .ok (.imul, 1) := dq_104 (fd_r fcX12_grows (by decide +kernel))
theorem dX12_grows_87 : decode cX12_grows 87 = .ok (.iload 4, 2) := dq_21 (a := 4) (fd_r fcX12_grows (by decide +kernel))
theorem dX12_grows_89 : decode cX12_grows 89 = .ok (.iadd, 1) := dq_96 (fd_r fcX12_grows (by decide +kernel))
theorem dX12_grows_90 : decode cX12_grows 90 = .ok (.iaload, 1) := dq_46 (fd_r fcX12_grows (by decide +kernel))
theorem dX12_grows_91 : decode cX12_grows 91 = .ok (.invokevirtual 568, 3) := dq_182 (a := 2) (b := 56) (fd_r fcX12_grows (by decide +kernel)) rfl
theorem dX12_grows_94 : decode cX12_grows 94 = .ok (.invokevirtual 574, 3) := dq_182 (a := 2) (b := 62) (fd_r fcX12_grows (by decide +kernel)) rfl
theorem dX12_grows_97 : decode cX12_grows 97 = .ok (.iinc 4 1, 3) := dq_132 (a := 4) (b := 1) (fd_r fcX12_grows (by decide +kernel)) rfl
theorem dX12_grows_100 : decode cX12_grows 100 = .ok (.goto (-37), 3) := dq_167 (a := 255) (b := 219) (fd_r fcX12_grows (by decide +kernel)) rfl
theorem dX12_grows_103 : decode cX12_grows 103 = .ok (.iinc 1 1, 3) := dq_132 (a := 1) (b := 1) (fd_r fcX12_grows (by decide +kernel)) rfl
theorem dX12_grows_106 : decode cX12_grows 106 = .ok (.goto (-91), 3) := dq_167 (a := 255) (b := 165) (fd_r fcX12_grows (by decide +kernel)) rfl
theorem dX12_grows_109 : decode cX12_grows 109 = .ok (.return_, 1) := dq_177 (fd_r fcX12_grows (by decide +kernel))
theorem dX12_weighs_0 : decode cX12_weighs 0 = .ok (.aload_n 0, 1) := dq_42 (fd_r fcX12_weighs (by decide +kernel))
theorem dX12_weighs_1 : decode cX12_weighs 1 = .ok (.iload_n 1, 1) := dq_27 (fd_r fcX12_weighs (by decide +kernel))
theorem dX12_weighs_2 : decode cX12_weighs 2 = .ok (.invokevirtual 556, 3) := dq_182 (a := 2) (b := 44) (fd_r fcX12_weighs (by decide +kernel)) rfl
theorem dX12_weighs_5 : decode cX12_weighs 5 = .ok (.istore_n 2, 1) := dq_61 (fd_r fcX12_weighs (by decide +kernel))
theorem dX12_weighs_6 : decode cX12_weighs 6 = .ok (.iconst 1, 1) := dq_4 (fd_r fcX12_weighs (by decide +kernel))
theorem dX12_weighs_7 : decode cX12_weighs 7 = .ok (.istore_n 3, 1) := dq_62 (fd_r fcX12_weighs (by decide +kernel))
theorem dX12_weighs_8 : decode cX12_weighs 8 = .ok (.iconst 0, 1) := dq_3 (fd_r fcX12_weighs (by decide +kernel))
theorem dX12_weighs_9 : decode cX12_weighs 9 = .ok (.istore 4, 2) := dq_54 (a := 4) (fd_r fcX12_weighs (by decide +kernel))
theorem dX12_weighs_11 : decode cX12_weighs 11 = .ok (.iload_n 2, 1) := dq_28 (fd_r fcX12_weighs (by decide +kernel))
theorem dX12_weighs_12 : decode cX12_weighs 12 = .ok (.iconst 4, 1) := dq_7 (fd_r fcX12_weighs (by decide +kernel))
theorem dX12_weighs_13 : decode cX12_weighs 13 = .ok (.if_icmp .ne 39, 3) := dq_160 (a := 0) (b := 39) (fd_r fcX12_weighs (by decide +kernel)) rfl
theorem dX12_weighs_16 : decode cX12_weighs 16 = .ok (.aload_n 0, 1) := dq_42 (fd_r fcX12_weighs (by decide +kernel))
theorem dX12_weighs_17 : decode cX12_weighs 17 = .ok (.iload_n 1, 1) := dq_27 (fd_r fcX12_weighs (by decide +kernel))
theorem dX12_weighs_18 : decode cX12_weighs 18 = .ok (.invokevirtual 577, 3) := dq_182 (a := 2) (b := 65) (fd_r fcX12_weighs (by decide +kernel)) rfl
theorem dX12_weighs_21 : decode cX12_weighs 21 = .ok (.ifCond .eq 31, 3) := dq_153 (a := 0) (b := 31) (fd_r fcX12_weighs (by decide +kernel)) rfl
theorem dX12_weighs_24 : decode cX12_weighs 24 = .ok (.iload_n 3, 1) := dq_29 (fd_r fcX12_weighs (by decide +kernel))
theorem dX12_weighs_25 : decode cX12_weighs 25 = .ok (.aload_n 0, 1) := dq_42 (fd_r fcX12_weighs (by decide +kernel))
theorem dX12_weighs_26 : decode cX12_weighs 26 = .ok (.getfield 261, 3) := dq_180 (a := 1) (b := 5) (fd_r fcX12_weighs (by decide +kernel)) rfl
theorem dX12_weighs_29 : decode cX12_weighs 29 = .ok (.iload_n 1, 1) := dq_27 (fd_r fcX12_weighs (by decide +kernel))
theorem dX12_weighs_30 : decode cX12_weighs 30 = .ok (.invokestatic 565, 3) := dq_184 (a := 2) (b := 53) (fd_r fcX12_weighs (by decide +kernel)) rfl
theorem dX12_weighs_33 : decode cX12_weighs 33 = .ok (.iaload, 1) := dq_46 (fd_r fcX12_weighs (by decide +kernel))
theorem dX12_weighs_34 : decode cX12_weighs 34 = .ok (.iconst 3, 1) := dq_6 (fd_r fcX12_weighs (by decide +kernel))
theorem dX12_weighs_35 : decode cX12_weighs 35 = .ok (.ishr, 1) := dq_122 (fd_r fcX12_weighs (by decide +kernel))
theorem dX12_weighs_36 : decode cX12_weighs 36 = .ok (.iadd, 1) := dq_96 (fd_r fcX12_weighs (by decide +kernel))
theorem dX12_weighs_37 : decode cX12_weighs 37 = .ok (.istore_n 3, 1) := dq_62 (fd_r fcX12_weighs (by decide +kernel))
theorem dX12_weighs_38 : decode cX12_weighs 38 = .ok (.aload_n 0, 1) := dq_42 (fd_r fcX12_weighs (by decide +kernel))
theorem dX12_weighs_39 : decode cX12_weighs 39 = .ok (.getfield 261, 3) := dq_180 (a := 1) (b := 5) (fd_r fcX12_weighs (by decide +kernel)) rfl
theorem dX12_weighs_42 : decode cX12_weighs 42 = .ok (.iload_n 1, 1) := dq_27 (fd_r fcX12_weighs (by decide +kernel))
theorem dX12_weighs_43 : decode cX12_weighs 43 = .ok (.invokestatic 565, 3) := dq_184 (a := 2) (b := 53) (fd_r fcX12_weighs (by decide +kernel)) rfl
theorem dX12_weighs_46 : decode cX12_weighs 46 = .ok (.iaload, 1) := dq_46 (fd_r fcX12_weighs (by decide +kernel))
theorem dX12_weighs_47 : decode cX12_weighs 47 = .ok (.bipush 7, 2) := dq_16 (a := 7) (fd_r fcX12_weighs (by decide +kernel)) rfl
theorem dX12_weighs_49 : decode cX12_weighs 49 = .ok (.iand, 1) := dq_126 (fd_r fcX12_weighs (by decide +kernel))
theorem dX12_weighs_50 : decode cX12_weighs 50 = .ok (.istore 4, 2) := dq_54 (a := 4) (fd_r fcX12_weighs (by decide +kernel))
theorem dX12_weighs_52 : decode cX12_weighs 52 = .ok (.aload_n 0, 1) := dq_42 (fd_r fcX12_weighs (by decide +kernel))
theorem dX12_weighs_53 : decode cX12_weighs 53 = .ok (.dup, 1) := dq_89 (fd_r fcX12_weighs (by decide +kernel))
theorem dX12_weighs_54 : decode cX12_weighs 54 = .ok (.getfield 249, 3) := dq_180 (a := 0) (b := 249) (fd_r fcX12_weighs (by decide +kernel)) rfl
theorem dX12_weighs_57 : decode cX12_weighs 57 = .ok (.iconst 1, 1) := dq_4 (fd_r fcX12_weighs (by decide +kernel))
theorem dX12_weighs_58 : decode cX12_weighs 58 = .ok (.iadd, 1) := dq_96 (fd_r fcX12_weighs (by decide +kernel))
theorem dX12_weighs_59 : decode cX12_weighs 59 = .ok (.putfield 249, 3) := dq_181 (a := 0) (b := 249) (fd_r fcX12_weighs (by decide +kernel)) rfl
theorem dX12_weighs_62 : decode cX12_weighs 62 = .ok (.iconst 0, 1) := dq_3 (fd_r fcX12_weighs (by decide +kernel))
theorem dX12_weighs_63 : decode cX12_weighs 63 = .ok (.istore 5, 2) := dq_54 (a := 5) (fd_r fcX12_weighs (by decide +kernel))
theorem dX12_weighs_65 : decode cX12_weighs 65 = .ok (.iload_n 2, 1) := dq_28 (fd_r fcX12_weighs (by decide +kernel))
theorem dX12_weighs_66 : decode cX12_weighs 66 = .ok (.iconst 4, 1) := dq_7 (fd_r fcX12_weighs (by decide +kernel))
theorem dX12_weighs_67 : decode cX12_weighs 67 = .ok (.if_icmp .ge 117, 3) := dq_162 (a := 0) (b := 117) (fd_r fcX12_weighs (by decide +kernel)) rfl
theorem dX12_weighs_70 : decode cX12_weighs 70 = .ok (.iload 5, 2) := dq_21 (a := 5) (fd_r fcX12_weighs (by decide +kernel))
theorem dX12_weighs_72 : decode cX12_weighs 72 = .ok (.aload_n 0, 1) := dq_42 (fd_r fcX12_weighs (by decide +kernel))
theorem dX12_weighs_73 : decode cX12_weighs 73 = .ok (.getfield 164, 3) := dq_180 (a := 0) (b := 164) (fd_r fcX12_weighs (by decide +kernel)) rfl
end
section
theorem dX12_weighs_76 : decode cX12_weighs 76 = .ok (.iload_n 2, 1) := dq_28 (fd_r fcX12_weighs (by decide +kernel))
theorem dX12_weighs_77 : decode cX12_weighs 77 = .ok (.iaload, 1) := dq_46 (fd_r fcX12_weighs (by decide +kernel))
theorem dX12_weighs_78 : decode cX12_weighs 78 = .ok (.if_icmp .ge 106, 3) := dq_162 (a := 0) (b := 106) (fd_r fcX12_weighs (by decide +kernel)) rfl
theorem dX12_weighs_81 : decode cX12_weighs 81 = .ok (.aload_n 0, 1) := dq_42 (fd_r fcX12_weighs (by decide +kernel))
theorem dX12_weighs_82 : decode cX12_weighs 82 = .ok (.iload_n 1, 1) := dq_27 (fd_r fcX12_weighs (by decide +kernel))
theorem dX12_weighs_83 : decode cX12_weighs 83 = .ok (.iload_n 2, 1) := dq_28 (fd_r fcX12_weighs (by decide +kernel))
theorem dX12_weighs_84 : decode cX12_weighs 84 = .ok (.aload_n 0, 1) := dq_42 (fd_r fcX12_weighs (by decide +kernel))
theorem dX12_weighs_85 : decode cX12_weighs 85 = .ok (.getfield 203, 3) := dq_180 (a := 0) (b := 203) (fd_r fcX12_weighs (by decide +kernel)) rfl
theorem dX12_weighs_88 : decode cX12_weighs 88 = .ok (.sipush 2010, 3) := dq_17 (a := 7) (b := 218) (fd_r fcX12_weighs (by decide +kernel)) rfl
theorem dX12_weighs_91 : decode cX12_weighs 91 = .ok (.iload_n 2, 1) := dq_28 (fd_r fcX12_weighs (by decide +kernel))
theorem dX12_weighs_92 : decode cX12_weighs 92 = .ok (.imul, 1) := dq_104 (fd_r fcX12_weighs (by decide +kernel))
theorem dX12_weighs_93 : decode cX12_weighs 93 = .ok (.iload 5, 2) := dq_21 (a := 5) (fd_r fcX12_weighs (by decide +kernel))
theorem dX12_weighs_95 : decode cX12_weighs 95 = .ok (.iadd, 1) := dq_96 (fd_r fcX12_weighs (by decide +kernel))
theorem dX12_weighs_96 : decode cX12_weighs 96 = .ok (.iaload, 1) := dq_46 (fd_r fcX12_weighs (by decide +kernel))
theorem dX12_weighs_97 : decode cX12_weighs 97 = .ok (.invokevirtual 568, 3) := dq_182 (a := 2) (b := 56) (fd_r fcX12_weighs (by decide +kernel)) rfl
theorem dX12_weighs_100 : decode cX12_weighs 100 = .ok (.istore 6, 2) := dq_54 (a := 6) (fd_r fcX12_weighs (by decide +kernel))
theorem dX12_weighs_102 : decode cX12_weighs 102 = .ok (.aload_n 0, 1) := dq_42 (fd_r fcX12_weighs (by decide +kernel))
theorem dX12_weighs_103 : decode cX12_weighs 103 = .ok (.getfield 246, 3) := dq_180 (a := 0) (b := 246) (fd_r fcX12_weighs (by decide +kernel)) rfl
theorem dX12_weighs_106 : decode cX12_weighs 106 = .ok (.iload 6, 2) := dq_21 (a := 6) (fd_r fcX12_weighs (by decide +kernel))
theorem dX12_weighs_108 : decode cX12_weighs 108 = .ok (.invokestatic 547, 3) := dq_184 (a := 2) (b := 35) (fd_r fcX12_weighs (by decide +kernel)) rfl
theorem dX12_weighs_111 : decode cX12_weighs 111 = .ok (.iaload, 1) := dq_46 (fd_r fcX12_weighs (by decide +kernel))
theorem dX12_weighs_112 : decode cX12_weighs 112 = .ok (.aload_n 0, 1) := dq_42 (fd_r fcX12_weighs (by decide +kernel))
theorem dX12_weighs_113 : decode cX12_weighs 113 = .ok (.getfield 249, 3) := dq_180 (a := 0) (b := 249) (fd_r fcX12_weighs (by decide +kernel)) rfl
theorem dX12_weighs_116 : decode cX12_weighs 116 = .ok (.if_icmp .ne 6, 3) := dq_160 (a := 0) (b := 6) (fd_r fcX12_weighs (by decide +kernel)) rfl
theorem dX12_weighs_119 : decode cX12_weighs 119 = .ok (.goto 59, 3) := dq_167 (a := 0) (b := 59) (fd_r fcX12_weighs (by decide +kernel)) rfl
theorem dX12_weighs_122 : decode cX12_weighs 122 = .ok (.aload_n 0, 1) := dq_42 (fd_r fcX12_weighs (by decide +kernel))
theorem dX12_weighs_123 : decode cX12_weighs 123 = .ok (.getfield 246, 3) := dq_180 (a := 0) (b := 246) (fd_r fcX12_weighs (by decide +kernel)) rfl
theorem dX12_weighs_126 : decode cX12_weighs 126 = .ok (.iload 6, 2) := dq_21 (a := 6) (fd_r fcX12_weighs (by decide +kernel))
theorem dX12_weighs_128 : decode cX12_weighs 128 = .ok (.invokestatic 547, 3) := dq_184 (a := 2) (b := 35) (fd_r fcX12_weighs (by decide +kernel)) rfl
theorem dX12_weighs_131 : decode cX12_weighs 131 = .ok (.aload_n 0, 1) := dq_42 (fd_r fcX12_weighs (by decide +kernel))
theorem dX12_weighs_132 : decode cX12_weighs 132 = .ok (.getfield 249, 3) := dq_180 (a := 0) (b := 249) (fd_r fcX12_weighs (by decide +kernel)) rfl
theorem dX12_weighs_135 : decode cX12_weighs 135 = .ok (.iastore, 1) := dq_79 (fd_r fcX12_weighs (by decide +kernel))
theorem dX12_weighs_136 : decode cX12_weighs 136 = .ok (.iload_n 3, 1) := dq_29 (fd_r fcX12_weighs (by decide +kernel))
theorem dX12_weighs_137 : decode cX12_weighs 137 = .ok (.aload_n 0, 1) := dq_42 (fd_r fcX12_weighs (by decide +kernel))
theorem dX12_weighs_138 : decode cX12_weighs 138 = .ok (.getfield 261, 3) := dq_180 (a := 1) (b := 5) (fd_r fcX12_weighs (by decide +kernel)) rfl
theorem dX12_weighs_141 : decode cX12_weighs 141 = .ok (.iload 6, 2) := dq_21 (a := 6) (fd_r fcX12_weighs (by decide +kernel))
theorem dX12_weighs_143 : decode cX12_weighs 143 = .ok (.iaload, 1) := dq_46 (fd_r fcX12_weighs (by decide +kernel))
theorem dX12_weighs_144 : decode cX12_weighs 144 = .ok (.iconst 3, 1) := dq_6 (fd_r fcX12_weighs (by decide +kernel))
theorem dX12_weighs_145 : decode cX12_weighs 145 = .ok (.ishr, 1) := dq_122 (fd_r fcX12_weighs (by decide +kernel))
theorem dX12_weighs_146 : decode cX12_weighs 146 = .ok (.iadd, 1) := dq_96 (fd_r fcX12_weighs (by decide +kernel))
theorem dX12_weighs_147 : decode cX12_weighs 147 = .ok (.istore_n 3, 1) := dq_62 (fd_r fcX12_weighs (by decide +kernel))
theorem dX12_weighs_148 : decode cX12_weighs 148 = .ok (.aload_n 0, 1) := dq_42 (fd_r fcX12_weighs (by decide +kernel))
theorem dX12_weighs_149 : decode cX12_weighs 149 = .ok (.getfield 261, 3) := dq_180 (a := 1) (b := 5) (fd_r fcX12_weighs (by decide +kernel)) rfl
theorem dX12_weighs_152 : decode cX12_weighs 152 = .ok (.iload 6, 2) := dq_21 (a := 6) (fd_r fcX12_weighs (by decide +kernel))
theorem dX12_weighs_154 : decode cX12_weighs 154 = .ok (.iaload, 1) := dq_46 (fd_r fcX12_weighs (by decide +kernel))
theorem dX12_weighs_155 : decode cX12_weighs 155 = .ok (.bipush 7, 2) := dq_16 (a := 7) (fd_r fcX12_weighs (by decide +kernel)) rfl
theorem dX12_weighs_157 : decode cX12_weighs 157 = .ok (.iand, 1) := dq_126 (fd_r fcX12_weighs (by decide +kernel))
theorem dX12_weighs_158 : decode cX12_weighs 158 = .ok (.iconst 1, 1) := dq_4 (fd_r fcX12_weighs (by decide +kernel))
theorem dX12_weighs_159 : decode cX12_weighs 159 = .ok (.iadd, 1) := dq_96 (fd_r fcX12_weighs (by decide +kernel))
theorem dX12_weighs_160 : decode cX12_weighs 160 = .ok (.istore 7, 2) := dq_54 (a := 7) (fd_r fcX12_weighs (by decide +kernel))
theorem dX12_weighs_162 : decode cX12_weighs 162 = .ok (.iload 7, 2) := dq_21 (a := 7) (fd_r fcX12_weighs (by decide +kernel))
theorem dX12_weighs_164 : decode cX12_weighs 164 = .ok (.iload 4, 2) := dq_21 (a := 4) (fd_r fcX12_weighs (by decide +kernel))
theorem dX12_weighs_166 : decode cX12_weighs 166 = .ok (.if_icmp .le 8, 3) := dq_164 (a := 0) (b := 8) (fd_r fcX12_weighs (by decide +kernel)) rfl
theorem dX12_weighs_169 : decode cX12_weighs 169 = .ok (.iload 7, 2) := dq_21 (a := 7) (fd_r fcX12_weighs (by decide +kernel))
theorem dX12_weighs_171 : decode cX12_weighs 171 = .ok (.goto 5, 3) := dq_167 (a := 0) (b := 5) (fd_r fcX12_weighs (by decide +kernel)) rfl
theorem dX12_weighs_174 : decode cX12_weighs 174 = .ok (.iload 4, 2) := dq_21 (a := 4) (fd_r fcX12_weighs (by decide +kernel))
theorem dX12_weighs_176 : decode cX12_weighs 176 = .ok (.istore 4, 2) := dq_54 (a := 4) (fd_r fcX12_weighs (by decide +kernel))
theorem dX12_weighs_178 : decode cX12_weighs 178 = .ok (.iinc 5 1, 3) := dq_132 (a := 5) (b := 1) (fd_r fcX12_weighs (by decide +kernel)) rfl
theorem dX12_weighs_181 : decode cX12_weighs 181 = .ok (.goto (-116), 3) := dq_167 (a := 255) (b := 140) (fd_r fcX12_weighs (by decide +kernel)) rfl
theorem dX12_weighs_184 : decode cX12_weighs 184 = .ok (.aload_n 0, 1) := dq_42 (fd_r fcX12_weighs (by decide +kernel))
theorem dX12_weighs_185 : decode cX12_weighs 185 = .ok (.getfield 261, 3) := dq_180 (a := 1) (b := 5) (fd_r fcX12_weighs (by decide +kernel)) rfl
theorem dX12_weighs_188 : decode cX12_weighs 188 = .ok (.iload_n 1, 1) := dq_27 (fd_r fcX12_weighs (by decide +kernel))
theorem dX12_weighs_189 : decode cX12_weighs 189 = .ok (.iload_n 3, 1) := dq_29 (fd_r fcX12_weighs (by decide +kernel))
theorem dX12_weighs_190 : decode cX12_weighs 190 = .ok (.ldc_w 580, 3) := dq_19 (a := 2) (b := 68) (fd_r fcX12_weighs (by decide +kernel)) rfl
theorem dX12_weighs_193 : decode cX12_weighs 193 = .ok (.if_icmp .le 9, 3) := dq_164 (a := 0) (b := 9) (fd_r fcX12_weighs (by decide +kernel)) rfl
theorem dX12_weighs_196 : decode cX12_weighs 196 = .ok (.ldc_w 580, 3) := dq_19 (a := 2) (b := 68) (fd_r fcX12_weighs (by decide +kernel)) rfl
theorem dX12_weighs_199 : decode cX12_weighs 199 = .ok (.goto 4, 3) := dq_167 (a := 0) (b := 4) (fd_r fcX12_weighs (by decide +kernel)) rfl
theorem dX12_weighs_202 : decode cX12_weighs 202 = .ok (.iload_n 3, 1) := dq_29 (fd_r fcX12_weighs (by decide +kernel))
theorem dX12_weighs_203 : decode cX12_weighs 203 = .ok (.iconst 3, 1) := dq_6 (fd_r fcX12_weighs (by decide +kernel))
theorem dX12_weighs_204 : decode cX12_weighs 204 = .ok (.ishl, 1) := dq_120 (fd_r fcX12_weighs (by decide +kernel))
theorem dX12_weighs_205 : decode cX12_weighs 205 = .ok (.iload 4, 2) := dq_21 (a := 4) (fd_r fcX12_weighs (by decide +kernel))
theorem dX12_weighs_207 : decode cX12_weighs 207 = .ok (.ior, 1) := dq_128 (fd_r fcX12_weighs (by decide +kernel))
theorem dX12_weighs_208 : decode cX12_weighs 208 = .ok (.iastore, 1) := dq_79 (fd_r fcX12_weighs (by decide +kernel))
theorem dX12_weighs_209 : decode cX12_weighs 209 = .ok (.return_, 1) := dq_177 (fd_r fcX12_weighs (by decide +kernel))
theorem dX12_sizeOf_0 : decode cX12_sizeOf 0 = .ok (.iload_n 0, 1) := dq_26 (fd_r fcX12_sizeOf (by decide +kernel))
theorem dX12_sizeOf_1 : decode cX12_sizeOf 1 = .ok (.invokestatic 544, 3) := dq_184 (a := 2) (b := 32) (fd_r fcX12_sizeOf (by decide +kernel)) rfl
theorem dX12_sizeOf_4 : decode cX12_sizeOf 4 = .ok (.ireturn, 1) := dq_172 (fd_r fcX12_sizeOf (by decide +kernel))
theorem dX12_tree_0 : decode cX12_tree 0 = .ok (.aload_n 0, 1) := dq_42 (fd_r fcX12_tree (by decide +kernel))
theorem dX12_tree_1 : decode cX12_tree 1 = .ok (.getfield 146, 3) := dq_180 (a := 0) (b := 146) (fd_r fcX12_tree (by decide +kernel)) rfl
theorem dX12_tree_4 : decode cX12_tree 4 = .ok (.ifCond .eq 21, 3) := dq_153 (a := 0) (b := 21) (fd_r fcX12_tree (by decide +kernel)) rfl
theorem dX12_tree_7 : decode cX12_tree 7 = .ok (.iload_n 1, 1) := dq_27 (fd_r fcX12_tree (by decide +kernel))
theorem dX12_tree_8 : decode cX12_tree 8 = .ok (.iconst 0, 1) := dq_3 (fd_r fcX12_tree (by decide +kernel))
theorem dX12_tree_9 : decode cX12_tree 9 = .ok (.iconst 3, 1) := dq_6 (fd_r fcX12_tree (by decide +kernel))
theorem dX12_tree_10 : decode cX12_tree 10 = .ok (.invokestatic 362, 3) := dq_184 (a := 1) (b := 106) (fd_r fcX12_tree (by decide +kernel)) rfl
theorem dX12_tree_13 : decode cX12_tree 13 = .ok (.ifCond .eq 12, 3) := dq_153 (a := 0) (b := 12) (fd_r fcX12_tree (by decide +kernel)) rfl
theorem dX12_tree_16 : decode cX12_tree 16 = .ok (.iload_n 2, 1) := dq_28 (fd_r fcX12_tree (by decide +kernel))
theorem dX12_tree_17 : decode cX12_tree 17 = .ok (.iconst 0, 1) := dq_3 (fd_r fcX12_tree (by decide +kernel))
theorem dX12_tree_18 : decode cX12_tree 18 = .ok (.iconst 3, 1) := dq_6 (fd_r fcX12_tree (by decide +kernel))
theorem dX12_tree_19 : decode cX12_tree 19 = .ok (.invokestatic 362, 3) := dq_184 (a := 1) (b := 106) (fd_r fcX12_tree (by decide +kernel)) rfl
theorem dX12_tree_22 : decode cX12_tree 22 = .ok (.ifCond .ne 5, 3) := dq_154 (a := 0) (b := 5) (fd_r fcX12_tree (by decide +kernel)) rfl
theorem dX12_tree_25 : decode cX12_tree 25 = .ok (.iconst (-1), 1) := dq_2 (fd_r fcX12_tree (by decide +kernel))
theorem dX12_tree_26 : decode cX12_tree 26 = .ok (.ireturn, 1) := dq_172 (fd_r fcX12_tree (by decide +kernel))
theorem dX12_tree_27 : decode cX12_tree 27 = .ok (.aload_n 0, 1) := dq_42 (fd_r fcX12_tree (by decide +kernel))
theorem dX12_tree_28 : decode cX12_tree 28 = .ok (.iconst 0, 1) := dq_3 (fd_r fcX12_tree (by decide +kernel))
theorem dX12_tree_29 : decode cX12_tree 29 = .ok (.iload_n 1, 1) := dq_27 (fd_r fcX12_tree (by decide +kernel))
theorem dX12_tree_30 : decode cX12_tree 30 = .ok (.invokevirtual 581, 3) := dq_182 (a := 2) (b := 69) (fd_r fcX12_tree (by decide +kernel)) rfl
theorem dX12_tree_33 : decode cX12_tree 33 = .ok (.iload_n 2, 1) := dq_28 (fd_r fcX12_tree (by decide +kernel))
theorem dX12_tree_34 : decode cX12_tree 34 = .ok (.iconst 3, 1) := dq_6 (fd_r fcX12_tree (by decide +kernel))
theorem dX12_tree_35 : decode cX12_tree 35 = .ok (.if_icmp .ne 9, 3) := dq_160 (a := 0) (b := 9) (fd_r fcX12_tree (by decide +kernel)) rfl
theorem dX12_tree_38 : decode cX12_tree 38 = .ok (.aload_n 0, 1) := dq_42 (fd_r fcX12_tree (by decide +kernel))
theorem dX12_tree_39 : decode cX12_tree 39 = .ok (.iconst 0, 1) := dq_3 (fd_r fcX12_tree (by decide +kernel))
theorem dX12_tree_40 : decode cX12_tree 40 = .ok (.invokevirtual 584, 3) := dq_182 (a := 2) (b := 72) (fd_r fcX12_tree (by decide +kernel)) rfl
theorem dX12_tree_43 : decode cX12_tree 43 = .ok (.ireturn, 1) := dq_172 (fd_r fcX12_tree (by decide +kernel))
theorem dX12_tree_44 : decode cX12_tree 44 = .ok (.aload_n 0, 1) := dq_42 (fd_r fcX12_tree (by decide +kernel))
theorem dX12_tree_45 : decode cX12_tree 45 = .ok (.invokevirtual 587, 3) := dq_182 (a := 2) (b := 75) (fd_r fcX12_tree (by decide +kernel)) rfl
theorem dX12_tree_48 : decode cX12_tree 48 = .ok (.iload_n 2, 1) := dq_28 (fd_r fcX12_tree (by decide +kernel))
theorem dX12_tree_49 : decode cX12_tree 49 = .ok (.iconst 1, 1) := dq_4 (fd_r fcX12_tree (by decide +kernel))
theorem dX12_tree_50 : decode cX12_tree 50 = .ok (.if_icmp .ne 8, 3) := dq_160 (a := 0) (b := 8) (fd_r fcX12_tree (by decide +kernel)) rfl
theorem dX12_tree_53 : decode cX12_tree 53 = .ok (.aload_n 0, 1) := dq_42 (fd_r fcX12_tree (by decide +kernel))
theorem dX12_tree_54 : decode cX12_tree 54 = .ok (.getfield 258, 3) := dq_180 (a := 1) (b := 2) (fd_r fcX12_tree (by decide +kernel)) rfl
theorem dX12_tree_57 : decode cX12_tree 57 = .ok (.ireturn, 1) := dq_172 (fd_r fcX12_tree (by decide +kernel))
theorem dX12_tree_58 : decode cX12_tree 58 = .ok (.iconst 0, 1) := dq_3 (fd_r fcX12_tree (by decide +kernel))
theorem dX12_tree_59 : decode cX12_tree 59 = .ok (.istore_n 3, 1) := dq_62 (fd_r fcX12_tree (by decide +kernel))
theorem dX12_tree_60 : decode cX12_tree 60 = .ok (.iload_n 3, 1) := dq_29 (fd_r fcX12_tree (by decide +kernel))
theorem dX12_tree_61 : decode cX12_tree 61 = .ok (.bipush 16, 2) := dq_16 (a := 16) (fd_r fcX12_tree (by decide +kernel)) rfl
theorem dX12_tree_63 : decode cX12_tree 63 = .ok (.if_icmp .gt 52, 3) := dq_163 (a := 0) (b := 52) (fd_r fcX12_tree (by decide +kernel)) rfl
theorem dX12_tree_66 : decode cX12_tree 66 = .ok (.iconst 0, 1) := dq_3 (fd_r fcX12_tree (by decide +kernel))
theorem dX12_tree_67 : decode cX12_tree 67 = .ok (.istore 4, 2) := dq_54 (a := 4) (fd_r fcX12_tree (by decide +kernel))
theorem dX12_tree_69 : decode cX12_tree 69 = .ok (.iload 4, 2) := dq_21 (a := 4) (fd_r fcX12_tree (by decide +kernel))
theorem dX12_tree_71 : decode cX12_tree 71 = .ok (.aload_n 0, 1) := dq_42 (fd_r fcX12_tree (by decide +kernel))
theorem dX12_tree_72 : decode cX12_tree 72 = .ok (.getfield 258, 3) := dq_180 (a := 1) (b := 2) (fd_r fcX12_tree (by decide +kernel)) rfl
theorem dX12_tree_75 : decode cX12_tree 75 = .ok (.if_icmp .ge 34, 3) := dq_162 (a := 0) (b := 34) (fd_r fcX12_tree (by decide +kernel)) rfl
theorem dX12_tree_78 : decode cX12_tree 78 = .ok (.aload_n 0, 1) := dq_42 (fd_r fcX12_tree (by decide +kernel))
theorem dX12_tree_79 : decode cX12_tree 79 = .ok (.getfield 255, 3) := dq_180 (a := 0) (b := 255) (fd_r fcX12_tree (by decide +kernel)) rfl
theorem dX12_tree_82 : decode cX12_tree 82 = .ok (.iload 4, 2) := dq_21 (a := 4) (fd_r fcX12_tree (by decide +kernel))
theorem dX12_tree_84 : decode cX12_tree 84 = .ok (.iaload, 1) := dq_46 (fd_r fcX12_tree (by decide +kernel))
theorem dX12_tree_85 : decode cX12_tree 85 = .ok (.invokestatic 590, 3) := dq_184 (a := 2) (b := 78) (fd_r fcX12_tree (by decide +kernel)) rfl
theorem dX12_tree_88 : decode cX12_tree 88 = .ok (.iload_n 3, 1) := dq_29 (fd_r fcX12_tree (by decide +kernel))
theorem dX12_tree_89 : decode cX12_tree 89 = .ok (.if_icmp .ne 14, 3) := dq_160 (a := 0) (b := 14) (fd_r fcX12_tree (by decide +kernel)) rfl
theorem dX12_tree_92 : decode cX12_tree 92 = .ok (.aload_n 0, 1) := dq_42 (fd_r fcX12_tree (by decide +kernel))
theorem dX12_tree_93 : decode cX12_tree 93 = .ok (.aload_n 0, 1) := dq_42 (fd_r fcX12_tree (by decide +kernel))
theorem dX12_tree_94 : decode cX12_tree 94 = .ok (.getfield 255, 3) := dq_180 (a := 0) (b := 255) (fd_r fcX12_tree (by decide +kernel)) rfl
theorem dX12_tree_97 : decode cX12_tree 97 = .ok (.iload 4, 2) := dq_21 (a := 4) (fd_r fcX12_tree (by decide +kernel))
theorem dX12_tree_99 : decode cX12_tree 99 = .ok (.iaload, 1) := dq_46 (fd_r fcX12_tree (by decide +kernel))
theorem dX12_tree_100 : decode cX12_tree 100 = .ok (.invokevirtual 593, 3) := dq_182 (a := 2) (b := 81) (fd_r fcX12_tree (by decide +kernel)) rfl
theorem dX12_tree_103 : decode cX12_tree 103 = .ok (.iinc 4 1, 3) := dq_132 (a := 4) (b := 1) (fd_r fcX12_tree (by decide +kernel)) rfl
theorem dX12_tree_106 : decode cX12_tree 106 = .ok (.goto (-37), 3) := dq_167 (a := 255) (b := 219) (fd_r fcX12_tree (by decide +kernel)) rfl
theorem dX12_tree_109 : decode cX12_tree 109 = .ok (.iinc 3 1, 3) := dq_132 (a := 3) (b := 1) (fd_r fcX12_tree (by decide +kernel)) rfl
theorem dX12_tree_112 : decode cX12_tree 112 = .ok (.goto (-52), 3) := dq_167 (a := 255) (b := 204) (fd_r fcX12_tree (by decide +kernel)) rfl
theorem dX12_tree_115 : decode cX12_tree 115 = .ok (.iload_n 2, 1) := dq_28 (fd_r fcX12_tree (by decide +kernel))
theorem dX12_tree_116 : decode cX12_tree 116 = .ok (.ifCond .ne 17, 3) := dq_154 (a := 0) (b := 17) (fd_r fcX12_tree (by decide +kernel)) rfl
theorem dX12_tree_119 : decode cX12_tree 119 = .ok (.aload_n 0, 1) := dq_42 (fd_r fcX12_tree (by decide +kernel))
theorem dX12_tree_120 : decode cX12_tree 120 = .ok (.getfield 261, 3) := dq_180 (a := 1) (b := 5) (fd_r fcX12_tree (by decide +kernel)) rfl
theorem dX12_tree_123 : decode cX12_tree 123 = .ok (.aload_n 0, 1) := dq_42 (fd_r fcX12_tree (by decide +kernel))
theorem dX12_tree_124 : decode cX12_tree 124 = .ok (.invokevirtual 562, 3) := dq_182 (a := 2) (b := 50) (fd_r fcX12_tree (by decide +kernel)) rfl
theorem dX12_tree_127 : decode cX12_tree 127 = .ok (.iaload, 1) := dq_46 (fd_r fcX12_tree (by decide +kernel))
theorem dX12_tree_128 : decode cX12_tree 128 = .ok (.iconst 3, 1) := dq_6 (fd_r fcX12_tree (by decide +kernel))
theorem dX12_tree_129 : decode cX12_tree 129 = .ok (.ishr, 1) := dq_122 (fd_r fcX12_tree (by decide +kernel))
theorem dX12_tree_130 : decode cX12_tree 130 = .ok (.goto 15, 3) := dq_167 (a := 0) (b := 15) (fd_r fcX12_tree (by decide +kernel)) rfl
theorem dX12_tree_133 : decode cX12_tree 133 = .ok (.aload_n 0, 1) := dq_42 (fd_r fcX12_tree (by decide +kernel))
theorem dX12_tree_134 : decode cX12_tree 134 = .ok (.getfield 261, 3) := dq_180 (a := 1) (b := 5) (fd_r fcX12_tree (by decide +kernel)) rfl
theorem dX12_tree_137 : decode cX12_tree 137 = .ok (.aload_n 0, 1) := dq_42 (fd_r fcX12_tree (by decide +kernel))
theorem dX12_tree_138 : decode cX12_tree 138 = .ok (.invokevirtual 562, 3) := dq_182 (a := 2) (b := 50) (fd_r fcX12_tree (by decide +kernel)) rfl
theorem dX12_tree_141 : decode cX12_tree 141 = .ok (.iaload, 1) := dq_46 (fd_r fcX12_tree (by decide +kernel))
theorem dX12_tree_142 : decode cX12_tree 142 = .ok (.bipush 7, 2) := dq_16 (a := 7) (fd_r fcX12_tree (by decide +kernel)) rfl
theorem dX12_tree_144 : decode cX12_tree 144 = .ok (.iand, 1) := dq_126 (fd_r fcX12_tree (by decide +kernel))
theorem dX12_tree_145 : decode cX12_tree 145 = .ok (.ireturn, 1) := dq_172 (fd_r fcX12_tree (by decide +kernel))
theorem dX12_first_0 : decode cX12_first 0 = .ok (.aload_n 0, 1) := dq_42 (fd_r fcX12_first (by decide +kernel))
theorem dX12_first_1 : decode cX12_first 1 = .ok (.getfield 146, 3) := dq_180 (a := 0) (b := 146) (fd_r fcX12_first (by decide +kernel)) rfl
theorem dX12_first_4 : decode cX12_first 4 = .ok (.ifCond .eq 12, 3) := dq_153 (a := 0) (b := 12) (fd_r fcX12_first (by decide +kernel)) rfl
theorem dX12_first_7 : decode cX12_first 7 = .ok (.iload_n 1, 1) := dq_27 (fd_r fcX12_first (by decide +kernel))
theorem dX12_first_8 : decode cX12_first 8 = .ok (.iconst 0, 1) := dq_3 (fd_r fcX12_first (by decide +kernel))
theorem dX12_first_9 : decode cX12_first 9 = .ok (.iconst 3, 1) := dq_6 (fd_r fcX12_first (by decide +kernel))
theorem dX12_first_10 : decode cX12_first 10 = .ok (.invokestatic 362, 3) := dq_184 (a := 1) (b := 106) (fd_r fcX12_first (by decide +kernel)) rfl
theorem dX12_first_13 : decode cX12_first 13 = .ok (.ifCond .ne 5, 3) := dq_154 (a := 0) (b := 5) (fd_r fcX12_first (by decide +kernel)) rfl
theorem dX12_first_16 : decode cX12_first 16 = .ok (.iconst (-1), 1) := dq_2 (fd_r fcX12_first (by decide +kernel))
theorem dX12_first_17 : decode cX12_first 17 = .ok (.ireturn, 1) := dq_172 (fd_r fcX12_first (by decide +kernel))
theorem dX12_first_18 : decode cX12_first 18 = .ok (.aload_n 0, 1) := dq_42 (fd_r fcX12_first (by decide +kernel))
theorem dX12_first_19 : decode cX12_first 19 = .ok (.iconst 0, 1) := dq_3 (fd_r fcX12_first (by decide +kernel))
theorem dX12_first_20 : decode cX12_first 20 = .ok (.iload_n 1, 1) := dq_27 (fd_r fcX12_first (by decide +kernel))
theorem dX12_first_21 : decode cX12_first 21 = .ok (.invokevirtual 581, 3) := dq_182 (a := 2) (b := 69) (fd_r fcX12_first (by decide +kernel)) rfl
theorem dX12_first_24 : decode cX12_first 24 = .ok (.aload_n 0, 1) := dq_42 (fd_r fcX12_first (by decide +kernel))
theorem dX12_first_25 : decode cX12_first 25 = .ok (.invokevirtual 562, 3) := dq_182 (a := 2) (b := 50) (fd_r fcX12_first (by decide +kernel)) rfl
theorem dX12_first_28 : decode cX12_first 28 = .ok (.istore_n 2, 1) := dq_61 (fd_r fcX12_first (by decide +kernel))
theorem dX12_first_29 : decode cX12_first 29 = .ok (.aload_n 0, 1) := dq_42 (fd_r fcX12_first (by decide +kernel))
theorem dX12_first_30 : decode cX12_first 30 = .ok (.iload_n 2, 1) := dq_28 (fd_r fcX12_first (by decide +kernel))
theorem dX12_first_31 : decode cX12_first 31 = .ok (.invokevirtual 577, 3) := dq_182 (a := 2) (b := 65) (fd_r fcX12_first (by decide +kernel)) rfl
theorem dX12_first_34 : decode cX12_first 34 = .ok (.ifCond .eq 11, 3) := dq_153 (a := 0) (b := 11) (fd_r fcX12_first (by decide +kernel)) rfl
theorem dX12_first_37 : decode cX12_first 37 = .ok (.iload_n 2, 1) := dq_28 (fd_r fcX12_first (by decide +kernel))
theorem dX12_first_38 : decode cX12_first 38 = .ok (.invokestatic 565, 3) := dq_184 (a := 2) (b := 53) (fd_r fcX12_first (by decide +kernel)) rfl
theorem dX12_first_41 : decode cX12_first 41 = .ok (.istore_n 2, 1) := dq_61 (fd_r fcX12_first (by decide +kernel))
theorem dX12_first_42 : decode cX12_first 42 = .ok (.goto (-13), 3) := dq_167 (a := 255) (b := 243) (fd_r fcX12_first (by decide +kernel)) rfl
theorem dX12_first_45 : decode cX12_first 45 = .ok (.aload_n 0, 1) := dq_42 (fd_r fcX12_first (by decide +kernel))
theorem dX12_first_46 : decode cX12_first 46 = .ok (.iload_n 2, 1) := dq_28 (fd_r fcX12_first (by decide +kernel))
theorem dX12_first_47 : decode cX12_first 47 = .ok (.invokevirtual 556, 3) := dq_182 (a := 2) (b := 44) (fd_r fcX12_first (by decide +kernel)) rfl
theorem dX12_first_50 : decode cX12_first 50 = .ok (.istore_n 3, 1) := dq_62 (fd_r fcX12_first (by decide +kernel))
theorem dX12_first_51 : decode cX12_first 51 = .ok (.iload_n 3, 1) := dq_29 (fd_r fcX12_first (by decide +kernel))
theorem dX12_first_52 : decode cX12_first 52 = .ok (.iconst 4, 1) := dq_7 (fd_r fcX12_first (by decide +kernel))
theorem dX12_first_53 : decode cX12_first 53 = .ok (.if_icmp .ne 7, 3) := dq_160 (a := 0) (b := 7) (fd_r fcX12_first (by decide +kernel)) rfl
theorem dX12_first_56 : decode cX12_first 56 = .ok (.iconst (-1), 1) := dq_2 (fd_r fcX12_first (by decide +kernel))
theorem dX12_first_57 : decode cX12_first 57 = .ok (.goto 4, 3) := dq_167 (a := 0) (b := 4) (fd_r fcX12_first (by decide +kernel)) rfl
theorem dX12_first_60 : decode cX12_first 60 = .ok (.iload_n 3, 1) := dq_29 (fd_r fcX12_first (by decide +kernel))
theorem dX12_first_61 : decode cX12_first 61 = .ok (.ireturn, 1) := dq_172 (fd_r fcX12_first (by decide +kernel))
theorem dX12_isNewSet_0 : decode cX12_isNewSet 0 = .ok (.iconst 0, 1) := dq_3 (fd_r fcX12_isNewSet (by decide +kernel))
theorem dX12_isNewSet_1 : decode cX12_isNewSet 1 = .ok (.istore 4, 2) := dq_54 (a := 4) (fd_r fcX12_isNewSet (by decide +kernel))
theorem dX12_isNewSet_3 : decode cX12_isNewSet 3 = .ok (.iload 4, 2) := dq_21 (a := 4) (fd_r fcX12_isNewSet (by decide +kernel))
theorem dX12_isNewSet_5 : decode cX12_isNewSet 5 = .ok (.iload_n 3, 1) := dq_29 (fd_r fcX12_isNewSet (by decide +kernel))
theorem dX12_isNewSet_6 : decode cX12_isNewSet 6 = .ok (.if_icmp .ge 43, 3) := dq_162 (a := 0) (b := 43) (fd_r fcX12_isNewSet (by decide +kernel)) rfl
theorem dX12_isNewSet_9 : decode cX12_isNewSet 9 = .ok (.aload_n 0, 1) := dq_42 (fd_r fcX12_isNewSet (by decide +kernel))
theorem dX12_isNewSet_10 : decode cX12_isNewSet 10 = .ok (.getfield 203, 3) := dq_180 (a := 0) (b := 203) (fd_r fcX12_isNewSet (by decide +kernel)) rfl
theorem dX12_isNewSet_13 : decode cX12_isNewSet 13 = .ok (.sipush 2010, 3) := dq_17 (a := 7) (b := 218) (fd_r fcX12_isNewSet (by decide +kernel)) rfl
theorem dX12_isNewSet_16 : decode cX12_isNewSet 16 = .ok (.iload_n 2, 1) := dq_28 (fd_r fcX12_isNewSet (by decide +kernel))
theorem dX12_isNewSet_17 : decode cX12_isNewSet 17 = .ok (.imul, 1) := dq_104 (fd_r fcX12_isNewSet (by decide +kernel))
theorem dX12_isNewSet_18 : decode cX12_isNewSet 18 = .ok (.iload 4, 2) := dq_21 (a := 4) (fd_r fcX12_isNewSet (by decide +kernel))
theorem dX12_isNewSet_20 : decode cX12_isNewSet 20 = .ok (.iadd, 1) := dq_96 (fd_r fcX12_isNewSet (by decide +kernel))
theorem dX12_isNewSet_21 : decode cX12_isNewSet 21 = .ok (.iaload, 1) := dq_46 (fd_r fcX12_isNewSet (by decide +kernel))
theorem dX12_isNewSet_22 : decode cX12_isNewSet 22 = .ok (.iload_n 1, 1) := dq_27 (fd_r fcX12_isNewSet (by decide +kernel))
theorem dX12_isNewSet_23 : decode cX12_isNewSet 23 = .ok (.iand, 1) := dq_126 (fd_r fcX12_isNewSet (by decide +kernel))
theorem dX12_isNewSet_24 : decode cX12_isNewSet 24 = .ok (.aload_n 0, 1) := dq_42 (fd_r fcX12_isNewSet (by decide +kernel))
theorem dX12_isNewSet_25 : decode cX12_isNewSet 25 = .ok (.getfield 203, 3) := dq_180 (a := 0) (b := 203) (fd_r fcX12_isNewSet (by decide +kernel)) rfl
theorem dX12_isNewSet_28 : decode cX12_isNewSet 28 = .ok (.sipush 2010, 3) := dq_17 (a := 7) (b := 218) (fd_r fcX12_isNewSet (by decide +kernel)) rfl
theorem dX12_isNewSet_31 : decode cX12_isNewSet 31 = .ok (.iload_n 2, 1) := dq_28 (fd_r fcX12_isNewSet (by decide +kernel))
theorem dX12_isNewSet_32 : decode cX12_isNewSet 32 = .ok (.imul, 1) := dq_104 (fd_r fcX12_isNewSet (by decide +kernel))
theorem dX12_isNewSet_33 : decode cX12_isNewSet 33 = .ok (.iload_n 3, 1) := dq_29 (fd_r fcX12_isNewSet (by decide +kernel))
theorem dX12_isNewSet_34 : decode cX12_isNewSet 34 = .ok (.iadd, 1) := dq_96 (fd_r fcX12_isNewSet (by decide +kernel))
theorem dX12_isNewSet_35 : decode cX12_isNewSet 35 = .ok (.iaload, 1) := dq_46 (fd_r fcX12_isNewSet (by decide +kernel))
theorem dX12_isNewSet_36 : decode cX12_isNewSet 36 = .ok (.iload_n 1, 1) := dq_27 (fd_r fcX12_isNewSet (by decide +kernel))
theorem dX12_isNewSet_37 : decode cX12_isNewSet 37 = .ok (.iand, 1) := dq_126 (fd_r fcX12_isNewSet (by decide +kernel))
theorem dX12_isNewSet_38 : decode cX12_isNewSet 38 = .ok (.if_icmp .ne 5, 3) := dq_160 (a := 0) (b := 5) (fd_r fcX12_isNewSet (by decide +kernel)) rfl
theorem dX12_isNewSet_41 : decode cX12_isNewSet 41 = .ok (.iconst 0, 1) := dq_3 (fd_r fcX12_isNewSet (by decide +kernel))
theorem dX12_isNewSet_42 : decode cX12_isNewSet 42 = .ok (.ireturn, 1) := dq_172 (fd_r fcX12_isNewSet (by decide +kernel))
theorem dX12_isNewSet_43 : decode cX12_isNewSet 43 = .ok (.iinc 4 1, 3) := dq_132 (a := 4) (b := 1) (fd_r fcX12_isNewSet (by decide +kernel)) rfl
theorem dX12_isNewSet_46 : decode cX12_isNewSet 46 = .ok (.goto (-43), 3) := dq_167 (a := 255) (b := 213) (fd_r fcX12_isNewSet (by decide +kernel)) rfl
theorem dX12_isNewSet_49 : decode cX12_isNewSet 49 = .ok (.iconst 1, 1) := dq_4 (fd_r fcX12_isNewSet (by decide +kernel))
theorem dX12_isNewSet_50 : decode cX12_isNewSet 50 = .ok (.ireturn, 1) := dq_172 (fd_r fcX12_isNewSet (by decide +kernel))
theorem dX12_nextBranch_0 : decode cX12_nextBranch 0 = .ok (.aload_n 0, 1) := dq_42 (fd_r fcX12_nextBranch (by decide +kernel))
theorem dX12_nextBranch_1 : decode cX12_nextBranch 1 = .ok (.getfield 264, 3) := dq_180 (a := 1) (b := 8) (fd_r fcX12_nextBranch (by decide +kernel)) rfl
theorem dX12_nextBranch_4 : decode cX12_nextBranch 4 = .ok (.iload_n 1, 1) := dq_27 (fd_r fcX12_nextBranch (by decide +kernel))
theorem dX12_nextBranch_5 : decode cX12_nextBranch 5 = .ok (.iaload, 1) := dq_46 (fd_r fcX12_nextBranch (by decide +kernel))
theorem dX12_nextBranch_6 : decode cX12_nextBranch 6 = .ok (.istore_n 2, 1) := dq_61 (fd_r fcX12_nextBranch (by decide +kernel))
theorem dX12_nextBranch_7 : decode cX12_nextBranch 7 = .ok (.aload_n 0, 1) := dq_42 (fd_r fcX12_nextBranch (by decide +kernel))
theorem dX12_nextBranch_8 : decode cX12_nextBranch 8 = .ok (.iload_n 2, 1) := dq_28 (fd_r fcX12_nextBranch (by decide +kernel))
theorem dX12_nextBranch_9 : decode cX12_nextBranch 9 = .ok (.invokevirtual 556, 3) := dq_182 (a := 2) (b := 44) (fd_r fcX12_nextBranch (by decide +kernel)) rfl
theorem dX12_nextBranch_12 : decode cX12_nextBranch 12 = .ok (.istore_n 3, 1) := dq_62 (fd_r fcX12_nextBranch (by decide +kernel))
theorem dX12_nextBranch_13 : decode cX12_nextBranch 13 = .ok (.iload_n 3, 1) := dq_29 (fd_r fcX12_nextBranch (by decide +kernel))
theorem dX12_nextBranch_14 : decode cX12_nextBranch 14 = .ok (.iconst 4, 1) := dq_7 (fd_r fcX12_nextBranch (by decide +kernel))
theorem dX12_nextBranch_15 : decode cX12_nextBranch 15 = .ok (.if_icmp .ne 40, 3) := dq_160 (a := 0) (b := 40) (fd_r fcX12_nextBranch (by decide +kernel)) rfl
theorem dX12_nextBranch_18 : decode cX12_nextBranch 18 = .ok (.aload_n 0, 1) := dq_42 (fd_r fcX12_nextBranch (by decide +kernel))
theorem dX12_nextBranch_19 : decode cX12_nextBranch 19 = .ok (.getfield 267, 3) := dq_180 (a := 1) (b := 11) (fd_r fcX12_nextBranch (by decide +kernel)) rfl
theorem dX12_nextBranch_22 : decode cX12_nextBranch 22 = .ok (.iload_n 1, 1) := dq_27 (fd_r fcX12_nextBranch (by decide +kernel))
theorem dX12_nextBranch_23 : decode cX12_nextBranch 23 = .ok (.dup2, 1) := dq_92 (fd_r fcX12_nextBranch (by decide +kernel))
theorem dX12_nextBranch_24 : decode cX12_nextBranch 24 = .ok (.iaload, 1) := dq_46 (fd_r fcX12_nextBranch (by decide +kernel))
theorem dX12_nextBranch_25 : decode cX12_nextBranch 25 = .ok (.iconst 1, 1) := dq_4 (fd_r fcX12_nextBranch (by decide +kernel))
theorem dX12_nextBranch_26 : decode cX12_nextBranch 26 = .ok (.iadd, 1) := dq_96 (fd_r fcX12_nextBranch (by decide +kernel))
theorem dX12_nextBranch_27 : decode cX12_nextBranch 27 = .ok (.iastore, 1) := dq_79 (fd_r fcX12_nextBranch (by decide +kernel))
theorem dX12_nextBranch_28 : decode cX12_nextBranch 28 = .ok (.aload_n 0, 1) := dq_42 (fd_r fcX12_nextBranch (by decide +kernel))
theorem dX12_nextBranch_29 : decode cX12_nextBranch 29 = .ok (.getfield 267, 3) := dq_180 (a := 1) (b := 11) (fd_r fcX12_nextBranch (by decide +kernel)) rfl
theorem dX12_nextBranch_32 : decode cX12_nextBranch 32 = .ok (.iload_n 1, 1) := dq_27 (fd_r fcX12_nextBranch (by decide +kernel))
theorem dX12_nextBranch_33 : decode cX12_nextBranch 33 = .ok (.iaload, 1) := dq_46 (fd_r fcX12_nextBranch (by decide +kernel))
theorem dX12_nextBranch_34 : decode cX12_nextBranch 34 = .ok (.iconst 1, 1) := dq_4 (fd_r fcX12_nextBranch (by decide +kernel))
theorem dX12_nextBranch_35 : decode cX12_nextBranch 35 = .ok (.if_icmp .ne 18, 3) := dq_160 (a := 0) (b := 18) (fd_r fcX12_nextBranch (by decide +kernel)) rfl
theorem dX12_nextBranch_38 : decode cX12_nextBranch 38 = .ok (.aload_n 0, 1) := dq_42 (fd_r fcX12_nextBranch (by decide +kernel))
theorem dX12_nextBranch_39 : decode cX12_nextBranch 39 = .ok (.iload_n 2, 1) := dq_28 (fd_r fcX12_nextBranch (by decide +kernel))
theorem dX12_nextBranch_40 : decode cX12_nextBranch 40 = .ok (.invokevirtual 577, 3) := dq_182 (a := 2) (b := 65) (fd_r fcX12_nextBranch (by decide +kernel)) rfl
theorem dX12_nextBranch_43 : decode cX12_nextBranch 43 = .ok (.ifCond .eq 10, 3) := dq_153 (a := 0) (b := 10) (fd_r fcX12_nextBranch (by decide +kernel)) rfl
theorem dX12_nextBranch_46 : decode cX12_nextBranch 46 = .ok (.iload_n 2, 1) := dq_28 (fd_r fcX12_nextBranch (by decide +kernel))
theorem dX12_nextBranch_47 : decode cX12_nextBranch 47 = .ok (.invokestatic 565, 3) := dq_184 (a := 2) (b := 53) (fd_r fcX12_nextBranch (by decide +kernel)) rfl
theorem dX12_nextBranch_50 : decode cX12_nextBranch 50 = .ok (.goto 4, 3) := dq_167 (a := 0) (b := 4) (fd_r fcX12_nextBranch (by decide +kernel)) rfl
theorem dX12_nextBranch_53 : decode cX12_nextBranch 53 = .ok (.iconst (-1), 1) := dq_2 (fd_r fcX12_nextBranch (by decide +kernel))
theorem dX12_nextBranch_54 : decode cX12_nextBranch 54 = .ok (.ireturn, 1) := dq_172 (fd_r fcX12_nextBranch (by decide +kernel))
theorem dX12_nextBranch_55 : decode cX12_nextBranch 55 = .ok (.aload_n 0, 1) := dq_42 (fd_r fcX12_nextBranch (by decide +kernel))
theorem dX12_nextBranch_56 : decode cX12_nextBranch 56 = .ok (.getfield 267, 3) := dq_180 (a := 1) (b := 11) (fd_r fcX12_nextBranch (by decide +kernel)) rfl
theorem dX12_nextBranch_59 : decode cX12_nextBranch 59 = .ok (.iload_n 1, 1) := dq_27 (fd_r fcX12_nextBranch (by decide +kernel))
theorem dX12_nextBranch_60 : decode cX12_nextBranch 60 = .ok (.iaload, 1) := dq_46 (fd_r fcX12_nextBranch (by decide +kernel))
theorem dX12_nextBranch_61 : decode cX12_nextBranch 61 = .ok (.aload_n 0, 1) := dq_42 (fd_r fcX12_nextBranch (by decide +kernel))
theorem dX12_nextBranch_62 : decode cX12_nextBranch 62 = .ok (.getfield 164, 3) := dq_180 (a := 0) (b := 164) (fd_r fcX12_nextBranch (by decide +kernel)) rfl
theorem dX12_nextBranch_65 : decode cX12_nextBranch 65 = .ok (.iload_n 3, 1) := dq_29 (fd_r fcX12_nextBranch (by decide +kernel))
theorem dX12_nextBranch_66 : decode cX12_nextBranch 66 = .ok (.iaload, 1) := dq_46 (fd_r fcX12_nextBranch (by decide +kernel))
theorem dX12_nextBranch_67 : decode cX12_nextBranch 67 = .ok (.if_icmp .ge 58, 3) := dq_162 (a := 0) (b := 58) (fd_r fcX12_nextBranch (by decide +kernel)) rfl
theorem dX12_nextBranch_70 : decode cX12_nextBranch 70 = .ok (.aload_n 0, 1) := dq_42 (fd_r fcX12_nextBranch (by decide +kernel))
theorem dX12_nextBranch_71 : decode cX12_nextBranch 71 = .ok (.getfield 267, 3) := dq_180 (a := 1) (b := 11) (fd_r fcX12_nextBranch (by decide +kernel)) rfl
theorem dX12_nextBranch_74 : decode cX12_nextBranch 74 = .ok (.iload_n 1, 1) := dq_27 (fd_r fcX12_nextBranch (by decide +kernel))
theorem dX12_nextBranch_75 : decode cX12_nextBranch 75 = .ok (.iaload, 1) := dq_46 (fd_r fcX12_nextBranch (by decide +kernel))
theorem dX12_nextBranch_76 : decode cX12_nextBranch 76 = .ok (.istore 4, 2) := dq_54 (a := 4) (fd_r fcX12_nextBranch (by decide +kernel))
theorem dX12_nextBranch_78 : decode cX12_nextBranch 78 = .ok (.aload_n 0, 1) := dq_42 (fd_r fcX12_nextBranch (by decide +kernel))
theorem dX12_nextBranch_79 : decode cX12_nextBranch 79 = .ok (.getfield 267, 3) := dq_180 (a := 1) (b := 11) (fd_r fcX12_nextBranch (by decide +kernel)) rfl
theorem dX12_nextBranch_82 : decode cX12_nextBranch 82 = .ok (.iload_n 1, 1) := dq_27 (fd_r fcX12_nextBranch (by decide +kernel))
theorem dX12_nextBranch_83 : decode cX12_nextBranch 83 = .ok (.dup2, 1) := dq_92 (fd_r fcX12_nextBranch (by decide +kernel))
theorem dX12_nextBranch_84 : decode cX12_nextBranch 84 = .ok (.iaload, 1) := dq_46 (fd_r fcX12_nextBranch (by decide +kernel))
theorem dX12_nextBranch_85 : decode cX12_nextBranch 85 = .ok (.iconst 1, 1) := dq_4 (fd_r fcX12_nextBranch (by decide +kernel))
theorem dX12_nextBranch_86 : decode cX12_nextBranch 86 = .ok (.iadd, 1) := dq_96 (fd_r fcX12_nextBranch (by decide +kernel))
theorem dX12_nextBranch_87 : decode cX12_nextBranch 87 = .ok (.iastore, 1) := dq_79 (fd_r fcX12_nextBranch (by decide +kernel))
theorem dX12_nextBranch_88 : decode cX12_nextBranch 88 = .ok (.aload_n 0, 1) := dq_42 (fd_r fcX12_nextBranch (by decide +kernel))
theorem dX12_nextBranch_89 : decode cX12_nextBranch 89 = .ok (.iload_n 2, 1) := dq_28 (fd_r fcX12_nextBranch (by decide +kernel))
theorem dX12_nextBranch_90 : decode cX12_nextBranch 90 = .ok (.invokestatic 547, 3) := dq_184 (a := 2) (b := 35) (fd_r fcX12_nextBranch (by decide +kernel)) rfl
theorem dX12_nextBranch_93 : decode cX12_nextBranch 93 = .ok (.iload_n 3, 1) := dq_29 (fd_r fcX12_nextBranch (by decide +kernel))
theorem dX12_nextBranch_94 : decode cX12_nextBranch 94 = .ok (.iload 4, 2) := dq_21 (a := 4) (fd_r fcX12_nextBranch (by decide +kernel))
theorem dX12_nextBranch_96 : decode cX12_nextBranch 96 = .ok (.invokevirtual 596, 3) := dq_182 (a := 2) (b := 84) (fd_r fcX12_nextBranch (by decide +kernel)) rfl
theorem dX12_nextBranch_99 : decode cX12_nextBranch 99 = .ok (.ifCond .eq 23, 3) := dq_153 (a := 0) (b := 23) (fd_r fcX12_nextBranch (by decide +kernel)) rfl
theorem dX12_nextBranch_102 : decode cX12_nextBranch 102 = .ok (.aload_n 0, 1) := dq_42 (fd_r fcX12_nextBranch (by decide +kernel))
theorem dX12_nextBranch_103 : decode cX12_nextBranch 103 = .ok (.iload_n 2, 1) := dq_28 (fd_r fcX12_nextBranch (by decide +kernel))
theorem dX12_nextBranch_104 : decode cX12_nextBranch 104 = .ok (.iload_n 3, 1) := dq_29 (fd_r fcX12_nextBranch (by decide +kernel))
theorem dX12_nextBranch_105 : decode cX12_nextBranch 105 = .ok (.aload_n 0, 1) := dq_42 (fd_r fcX12_nextBranch (by decide +kernel))
theorem dX12_nextBranch_106 : decode cX12_nextBranch 106 = .ok (.getfield 203, 3) := dq_180 (a := 0) (b := 203) (fd_r fcX12_nextBranch (by decide +kernel)) rfl
theorem dX12_nextBranch_109 : decode cX12_nextBranch 109 = .ok (.sipush 2010, 3) := dq_17 (a := 7) (b := 218) (fd_r fcX12_nextBranch (by decide +kernel)) rfl
theorem dX12_nextBranch_112 : decode cX12_nextBranch 112 = .ok (.iload_n 3, 1) := dq_29 (fd_r fcX12_nextBranch (by decide +kernel))
theorem dX12_nextBranch_113 : decode cX12_nextBranch 113 = .ok (.imul, 1) := dq_104 (fd_r fcX12_nextBranch (by decide +kernel))
theorem dX12_nextBranch_114 : decode cX12_nextBranch 114 = .ok (.iload 4, 2) := dq_21 (a := 4) (fd_r fcX12_nextBranch (by decide +kernel))
theorem dX12_nextBranch_116 : decode cX12_nextBranch 116 = .ok (.iadd, 1) := dq_96 (fd_r fcX12_nextBranch (by decide +kernel))
theorem dX12_nextBranch_117 : decode cX12_nextBranch 117 = .ok (.iaload, 1) := dq_46 (fd_r fcX12_nextBranch (by decide +kernel))
theorem dX12_nextBranch_118 : decode cX12_nextBranch 118 = .ok (.invokevirtual 568, 3) := dq_182 (a := 2) (b := 56) (fd_r fcX12_nextBranch (by decide +kernel)) rfl
theorem dX12_nextBranch_121 : decode cX12_nextBranch 121 = .ok (.ireturn, 1) := dq_172 (fd_r fcX12_nextBranch (by decide +kernel))
theorem dX12_nextBranch_122 : decode cX12_nextBranch 122 = .ok (.goto (-67), 3) := dq_167 (a := 255) (b := 189) (fd_r fcX12_nextBranch (by decide +kernel)) rfl
theorem dX12_nextBranch_125 : decode cX12_nextBranch 125 = .ok (.iconst (-1), 1) := dq_2 (fd_r fcX12_nextBranch (by decide +kernel))
theorem dX12_nextBranch_126 : decode cX12_nextBranch 126 = .ok (.ireturn, 1) := dq_172 (fd_r fcX12_nextBranch (by decide +kernel))
theorem dX12_opensScope_0 : decode cX12_opensScope 0 = .ok (.aload_n 0, 1) := dq_42 (fd_r fcX12_opensScope (by decide +kernel))
theorem dX12_opensScope_1 : decode cX12_opensScope 1 = .ok (.getfield 264, 3) := dq_180 (a := 1) (b := 8) (fd_r fcX12_opensScope (by decide +kernel)) rfl
theorem dX12_opensScope_4 : decode cX12_opensScope 4 = .ok (.iload_n 1, 1) := dq_27 (fd_r fcX12_opensScope (by decide +kernel))
theorem dX12_opensScope_5 : decode cX12_opensScope 5 = .ok (.iload_n 2, 1) := dq_28 (fd_r fcX12_opensScope (by decide +kernel))
theorem dX12_opensScope_6 : decode cX12_opensScope 6 = .ok (.iastore, 1) := dq_79 (fd_r fcX12_opensScope (by decide +kernel))
theorem dX12_opensScope_7 : decode cX12_opensScope 7 = .ok (.aload_n 0, 1) := dq_42 (fd_r fcX12_opensScope (by decide +kernel))
theorem dX12_opensScope_8 : decode cX12_opensScope 8 = .ok (.getfield 267, 3) := dq_180 (a := 1) (b := 11) (fd_r fcX12_opensScope (by decide +kernel)) rfl
theorem dX12_opensScope_11 : decode cX12_opensScope 11 = .ok (.iload_n 1, 1) := dq_27 (fd_r fcX12_opensScope (by decide +kernel))
theorem dX12_opensScope_12 : decode cX12_opensScope 12 = .ok (.iconst 0, 1) := dq_3 (fd_r fcX12_opensScope (by decide +kernel))
theorem dX12_opensScope_13 : decode cX12_opensScope 13 = .ok (.iastore, 1) := dq_79 (fd_r fcX12_opensScope (by decide +kernel))
theorem dX12_opensScope_14 : decode cX12_opensScope 14 = .ok (.aload_n 0, 1) := dq_42 (fd_r fcX12_opensScope (by decide +kernel))
theorem dX12_opensScope_15 : decode cX12_opensScope 15 = .ok (.getfield 270, 3) := dq_180 (a := 1) (b := 14) (fd_r fcX12_opensScope (by decide +kernel)) rfl
theorem dX12_opensScope_18 : decode cX12_opensScope 18 = .ok (.iload_n 1, 1) := dq_27 (fd_r fcX12_opensScope (by decide +kernel))
theorem dX12_opensScope_19 : decode cX12_opensScope 19 = .ok (.aload_n 0, 1) := dq_42 (fd_r fcX12_opensScope (by decide +kernel))
theorem dX12_opensScope_20 : decode cX12_opensScope 20 = .ok (.getfield 276, 3) := dq_180 (a := 1) (b := 20) (fd_r fcX12_opensScope (by decide +kernel)) rfl
theorem dX12_opensScope_23 : decode cX12_opensScope 23 = .ok (.iastore, 1) := dq_79 (fd_r fcX12_opensScope (by decide +kernel))
theorem dX12_opensScope_24 : decode cX12_opensScope 24 = .ok (.aload_n 0, 1) := dq_42 (fd_r fcX12_opensScope (by decide +kernel))
theorem dX12_opensScope_25 : decode cX12_opensScope 25 = .ok (.dup, 1) := dq_89 (fd_r fcX12_opensScope (by decide +kernel))
theorem dX12_opensScope_26 : decode cX12_opensScope 26 = .ok (.getfield 276, 3) := dq_180 (a := 1) (b := 20) (fd_r fcX12_opensScope (by decide +kernel)) rfl
theorem dX12_opensScope_29 : decode cX12_opensScope 29 = .ok (.iconst 1, 1) := dq_4 (fd_r fcX12_opensScope (by decide +kernel))
theorem dX12_opensScope_30 : decode cX12_opensScope 30 = .ok (.iadd, 1) := dq_96 (fd_r fcX12_opensScope (by decide +kernel))
theorem dX12_opensScope_31 : decode cX12_opensScope 31 = .ok (.putfield 276, 3) := dq_181 (a := 1) (b := 20) (fd_r fcX12_opensScope (by decide +kernel)) rfl
theorem dX12_opensScope_34 : decode cX12_opensScope 34 = .ok (.aload_n 0, 1) := dq_42 (fd_r fcX12_opensScope (by decide +kernel))
theorem dX12_opensScope_35 : decode cX12_opensScope 35 = .ok (.iload_n 1, 1) := dq_27 (fd_r fcX12_opensScope (by decide +kernel))
theorem dX12_opensScope_36 : decode cX12_opensScope 36 = .ok (.iconst 1, 1) := dq_4 (fd_r fcX12_opensScope (by decide +kernel))
theorem dX12_opensScope_37 : decode cX12_opensScope 37 = .ok (.iadd, 1) := dq_96 (fd_r fcX12_opensScope (by decide +kernel))
theorem dX12_opensScope_38 : decode cX12_opensScope 38 = .ok (.aload_n 0, 1) := dq_42 (fd_r fcX12_opensScope (by decide +kernel))
theorem dX12_opensScope_39 : decode cX12_opensScope 39 = .ok (.getfield 282, 3) := dq_180 (a := 1) (b := 26) (fd_r fcX12_opensScope (by decide +kernel)) rfl
theorem dX12_opensScope_42 : decode cX12_opensScope 42 = .ok (.if_icmp .le 9, 3) := dq_164 (a := 0) (b := 9) (fd_r fcX12_opensScope (by decide +kernel)) rfl
theorem dX12_opensScope_45 : decode cX12_opensScope 45 = .ok (.iload_n 1, 1) := dq_27 (fd_r fcX12_opensScope (by decide +kernel))
theorem dX12_opensScope_46 : decode cX12_opensScope 46 = .ok (.iconst 1, 1) := dq_4 (fd_r fcX12_opensScope (by decide +kernel))
theorem dX12_opensScope_47 : decode cX12_opensScope 47 = .ok (.iadd, 1) := dq_96 (fd_r fcX12_opensScope (by decide +kernel))
theorem dX12_opensScope_48 : decode cX12_opensScope 48 = .ok (.goto 7, 3) := dq_167 (a := 0) (b := 7) (fd_r fcX12_opensScope (by decide +kernel)) rfl
theorem dX12_opensScope_51 : decode cX12_opensScope 51 = .ok (.aload_n 0, 1) := dq_42 (fd_r fcX12_opensScope (by decide +kernel))
theorem dX12_opensScope_52 : decode cX12_opensScope 52 = .ok (.getfield 282, 3) := dq_180 (a := 1) (b := 26) (fd_r fcX12_opensScope (by decide +kernel)) rfl
theorem dX12_opensScope_55 : decode cX12_opensScope 55 = .ok (.putfield 282, 3) := dq_181 (a := 1) (b := 26) (fd_r fcX12_opensScope (by decide +kernel)) rfl
theorem dX12_opensScope_58 : decode cX12_opensScope 58 = .ok (.return_, 1) := dq_177 (fd_r fcX12_opensScope (by decide +kernel))
theorem dX12_builds_0 : decode cX12_builds 0 = .ok (.aload_n 0, 1) := dq_42 (fd_r fcX12_builds (by decide +kernel))
theorem dX12_builds_1 : decode cX12_builds 1 = .ok (.iconst 0, 1) := dq_3 (fd_r fcX12_builds (by decide +kernel))
theorem dX12_builds_2 : decode cX12_builds 2 = .ok (.putfield 276, 3) := dq_181 (a := 1) (b := 20) (fd_r fcX12_builds (by decide +kernel)) rfl
theorem dX12_builds_5 : decode cX12_builds 5 = .ok (.aload_n 0, 1) := dq_42 (fd_r fcX12_builds (by decide +kernel))
theorem dX12_builds_6 : decode cX12_builds 6 = .ok (.iconst 0, 1) := dq_3 (fd_r fcX12_builds (by decide +kernel))
theorem dX12_builds_7 : decode cX12_builds 7 = .ok (.putfield 279, 3) := dq_181 (a := 1) (b := 23) (fd_r fcX12_builds (by decide +kernel)) rfl
theorem dX12_builds_10 : decode cX12_builds 10 = .ok (.aload_n 0, 1) := dq_42 (fd_r fcX12_builds (by decide +kernel))
theorem dX12_builds_11 : decode cX12_builds 11 = .ok (.iconst 0, 1) := dq_3 (fd_r fcX12_builds (by decide +kernel))
theorem dX12_builds_12 : decode cX12_builds 12 = .ok (.putfield 282, 3) := dq_181 (a := 1) (b := 26) (fd_r fcX12_builds (by decide +kernel)) rfl
theorem dX12_builds_15 : decode cX12_builds 15 = .ok (.aload_n 0, 1) := dq_42 (fd_r fcX12_builds (by decide +kernel))
theorem dX12_builds_16 : decode cX12_builds 16 = .ok (.iconst 0, 1) := dq_3 (fd_r fcX12_builds (by decide +kernel))
theorem dX12_builds_17 : decode cX12_builds 17 = .ok (.putfield 285, 3) := dq_181 (a := 1) (b := 29) (fd_r fcX12_builds (by decide +kernel)) rfl
theorem dX12_builds_20 : decode cX12_builds 20 = .ok (.iconst 0, 1) := dq_3 (fd_r fcX12_builds (by decide +kernel))
theorem dX12_builds_21 : decode cX12_builds 21 = .ok (.istore_n 1, 1) := dq_60 (fd_r fcX12_builds (by decide +kernel))
theorem dX12_builds_22 : decode cX12_builds 22 = .ok (.aload_n 0, 1) := dq_42 (fd_r fcX12_builds (by decide +kernel))
theorem dX12_builds_23 : decode cX12_builds 23 = .ok (.iconst 0, 1) := dq_3 (fd_r fcX12_builds (by decide +kernel))
theorem dX12_builds_24 : decode cX12_builds 24 = .ok (.aload_n 0, 1) := dq_42 (fd_r fcX12_builds (by decide +kernel))
theorem dX12_builds_25 : decode cX12_builds 25 = .ok (.invokevirtual 562, 3) := dq_182 (a := 2) (b := 50) (fd_r fcX12_builds (by decide +kernel)) rfl
theorem dX12_builds_28 : decode cX12_builds 28 = .ok (.invokevirtual 599, 3) := dq_182 (a := 2) (b := 87) (fd_r fcX12_builds (by decide +kernel)) rfl
theorem dX12_builds_31 : decode cX12_builds 31 = .ok (.iload_n 1, 1) := dq_27 (fd_r fcX12_builds (by decide +kernel))
theorem dX12_builds_32 : decode cX12_builds 32 = .ok (.ifCond .lt 101, 3) := dq_155 (a := 0) (b := 101) (fd_r fcX12_builds (by decide +kernel)) rfl
theorem dX12_builds_35 : decode cX12_builds 35 = .ok (.aload_n 0, 1) := dq_42 (fd_r fcX12_builds (by decide +kernel))
theorem dX12_builds_36 : decode cX12_builds 36 = .ok (.getfield 285, 3) := dq_180 (a := 1) (b := 29) (fd_r fcX12_builds (by decide +kernel)) rfl
theorem dX12_builds_39 : decode cX12_builds 39 = .ok (.ifCond .eq 7, 3) := dq_153 (a := 0) (b := 7) (fd_r fcX12_builds (by decide +kernel)) rfl
theorem dX12_builds_42 : decode cX12_builds 42 = .ok (.iconst (-1), 1) := dq_2 (fd_r fcX12_builds (by decide +kernel))
theorem dX12_builds_43 : decode cX12_builds 43 = .ok (.goto 8, 3) := dq_167 (a := 0) (b := 8) (fd_r fcX12_builds (by decide +kernel)) rfl
theorem dX12_builds_46 : decode cX12_builds 46 = .ok (.aload_n 0, 1) := dq_42 (fd_r fcX12_builds (by decide +kernel))
theorem dX12_builds_47 : decode cX12_builds 47 = .ok (.iload_n 1, 1) := dq_27 (fd_r fcX12_builds (by decide +kernel))
theorem dX12_builds_48 : decode cX12_builds 48 = .ok (.invokevirtual 602, 3) := dq_182 (a := 2) (b := 90) (fd_r fcX12_builds (by decide +kernel)) rfl
theorem dX12_builds_51 : decode cX12_builds 51 = .ok (.istore_n 2, 1) := dq_61 (fd_r fcX12_builds (by decide +kernel))
theorem dX12_builds_52 : decode cX12_builds 52 = .ok (.iload_n 2, 1) := dq_28 (fd_r fcX12_builds (by decide +kernel))
theorem dX12_builds_53 : decode cX12_builds 53 = .ok (.iconst (-1), 1) := dq_2 (fd_r fcX12_builds (by decide +kernel))
theorem dX12_builds_54 : decode cX12_builds 54 = .ok (.if_icmp .eq 24, 3) := dq_159 (a := 0) (b := 24) (fd_r fcX12_builds (by decide +kernel)) rfl
theorem dX12_builds_57 : decode cX12_builds 57 = .ok (.aload_n 0, 1) := dq_42 (fd_r fcX12_builds (by decide +kernel))
theorem dX12_builds_58 : decode cX12_builds 58 = .ok (.getfield 276, 3) := dq_180 (a := 1) (b := 20) (fd_r fcX12_builds (by decide +kernel)) rfl
theorem dX12_builds_61 : decode cX12_builds 61 = .ok (.aload_n 0, 1) := dq_42 (fd_r fcX12_builds (by decide +kernel))
theorem dX12_builds_62 : decode cX12_builds 62 = .ok (.getfield 96, 3) := dq_180 (a := 0) (b := 96) (fd_r fcX12_builds (by decide +kernel)) rfl
theorem dX12_builds_65 : decode cX12_builds 65 = .ok (.aload_n 0, 1) := dq_42 (fd_r fcX12_builds (by decide +kernel))
theorem dX12_builds_66 : decode cX12_builds 66 = .ok (.getfield 51, 3) := dq_180 (a := 0) (b := 51) (fd_r fcX12_builds (by decide +kernel)) rfl
theorem dX12_builds_69 : decode cX12_builds 69 = .ok (.iaload, 1) := dq_46 (fd_r fcX12_builds (by decide +kernel))
theorem dX12_builds_70 : decode cX12_builds 70 = .ok (.if_icmp .ne 8, 3) := dq_160 (a := 0) (b := 8) (fd_r fcX12_builds (by decide +kernel)) rfl
theorem dX12_builds_73 : decode cX12_builds 73 = .ok (.aload_n 0, 1) := dq_42 (fd_r fcX12_builds (by decide +kernel))
theorem dX12_builds_74 : decode cX12_builds 74 = .ok (.iconst 1, 1) := dq_4 (fd_r fcX12_builds (by decide +kernel))
theorem dX12_builds_75 : decode cX12_builds 75 = .ok (.putfield 285, 3) := dq_181 (a := 1) (b := 29) (fd_r fcX12_builds (by decide +kernel)) rfl
theorem dX12_builds_78 : decode cX12_builds 78 = .ok (.iload_n 2, 1) := dq_28 (fd_r fcX12_builds (by decide +kernel))
theorem dX12_builds_79 : decode cX12_builds 79 = .ok (.iconst (-1), 1) := dq_2 (fd_r fcX12_builds (by decide +kernel))
theorem dX12_builds_80 : decode cX12_builds 80 = .ok (.if_icmp .eq 22, 3) := dq_159 (a := 0) (b := 22) (fd_r fcX12_builds (by decide +kernel)) rfl
theorem dX12_builds_83 : decode cX12_builds 83 = .ok (.aload_n 0, 1) := dq_42 (fd_r fcX12_builds (by decide +kernel))
theorem dX12_builds_84 : decode cX12_builds 84 = .ok (.getfield 285, 3) := dq_180 (a := 1) (b := 29) (fd_r fcX12_builds (by decide +kernel)) rfl
theorem dX12_builds_87 : decode cX12_builds 87 = .ok (.ifCond .ne 15, 3) := dq_154 (a := 0) (b := 15) (fd_r fcX12_builds (by decide +kernel)) rfl
theorem dX12_builds_90 : decode cX12_builds 90 = .ok (.iinc 1 1, 3) := dq_132 (a := 1) (b := 1) (fd_r fcX12_builds (by decide +kernel)) rfl
theorem dX12_builds_93 : decode cX12_builds 93 = .ok (.aload_n 0, 1) := dq_42 (fd_r fcX12_builds (by decide +kernel))
theorem dX12_builds_94 : decode cX12_builds 94 = .ok (.iload_n 1, 1) := dq_27 (fd_r fcX12_builds (by decide +kernel))
theorem dX12_builds_95 : decode cX12_builds 95 = .ok (.iload_n 2, 1) := dq_28 (fd_r fcX12_builds (by decide +kernel))
theorem dX12_builds_96 : decode cX12_builds 96 = .ok (.invokevirtual 599, 3) := dq_182 (a := 2) (b := 87) (fd_r fcX12_builds (by decide +kernel)) rfl
theorem dX12_builds_99 : decode cX12_builds 99 = .ok (.goto (-68), 3) := dq_167 (a := 255) (b := 188) (fd_r fcX12_builds (by decide +kernel)) rfl
theorem dX12_builds_102 : decode cX12_builds 102 = .ok (.aload_n 0, 1) := dq_42 (fd_r fcX12_builds (by decide +kernel))
theorem dX12_builds_103 : decode cX12_builds 103 = .ok (.getfield 273, 3) := dq_180 (a := 1) (b := 17) (fd_r fcX12_builds (by decide +kernel)) rfl
theorem dX12_builds_106 : decode cX12_builds 106 = .ok (.aload_n 0, 1) := dq_42 (fd_r fcX12_builds (by decide +kernel))
theorem dX12_builds_107 : decode cX12_builds 107 = .ok (.getfield 279, 3) := dq_180 (a := 1) (b := 23) (fd_r fcX12_builds (by decide +kernel)) rfl
theorem dX12_builds_110 : decode cX12_builds 110 = .ok (.aload_n 0, 1) := dq_42 (fd_r fcX12_builds (by decide +kernel))
theorem dX12_builds_111 : decode cX12_builds 111 = .ok (.getfield 270, 3) := dq_180 (a := 1) (b := 14) (fd_r fcX12_builds (by decide +kernel)) rfl
theorem dX12_builds_114 : decode cX12_builds 114 = .ok (.iload_n 1, 1) := dq_27 (fd_r fcX12_builds (by decide +kernel))
theorem dX12_builds_115 : decode cX12_builds 115 = .ok (.iaload, 1) := dq_46 (fd_r fcX12_builds (by decide +kernel))
theorem dX12_builds_116 : decode cX12_builds 116 = .ok (.iastore, 1) := dq_79 (fd_r fcX12_builds (by decide +kernel))
theorem dX12_builds_117 : decode cX12_builds 117 = .ok (.aload_n 0, 1) := dq_42 (fd_r fcX12_builds (by decide +kernel))
theorem dX12_builds_118 : decode cX12_builds 118 = .ok (.dup, 1) := dq_89 (fd_r fcX12_builds (by decide +kernel))
theorem dX12_builds_119 : decode cX12_builds 119 = .ok (.getfield 279, 3) := dq_180 (a := 1) (b := 23) (fd_r fcX12_builds (by decide +kernel)) rfl
theorem dX12_builds_122 : decode cX12_builds 122 = .ok (.iconst 1, 1) := dq_4 (fd_r fcX12_builds (by decide +kernel))
theorem dX12_builds_123 : decode cX12_builds 123 = .ok (.iadd, 1) := dq_96 (fd_r fcX12_builds (by decide +kernel))
theorem dX12_builds_124 : decode cX12_builds 124 = .ok (.putfield 279, 3) := dq_181 (a := 1) (b := 23) (fd_r fcX12_builds (by decide +kernel)) rfl
theorem dX12_builds_127 : decode cX12_builds 127 = .ok (.iinc 1 (-1), 3) := dq_132 (a := 1) (b := 255) (fd_r fcX12_builds (by decide +kernel)) rfl
theorem dX12_builds_130 : decode cX12_builds 130 = .ok (.goto (-99), 3) := dq_167 (a := 255) (b := 157) (fd_r fcX12_builds (by decide +kernel)) rfl
theorem dX12_builds_133 : decode cX12_builds 133 = .ok (.return_, 1) := dq_177 (fd_r fcX12_builds (by decide +kernel))
theorem dX12_scopes_0 : decode cX12_scopes 0 = .ok (.aload_n 0, 1) := dq_42 (fd_r fcX12_scopes (by decide +kernel))
theorem dX12_scopes_1 : decode cX12_scopes 1 = .ok (.getfield 146, 3) := dq_180 (a := 0) (b := 146) (fd_r fcX12_scopes (by decide +kernel)) rfl
theorem dX12_scopes_4 : decode cX12_scopes 4 = .ok (.ifCond .eq 21, 3) := dq_153 (a := 0) (b := 21) (fd_r fcX12_scopes (by decide +kernel)) rfl
theorem dX12_scopes_7 : decode cX12_scopes 7 = .ok (.iload_n 1, 1) := dq_27 (fd_r fcX12_scopes (by decide +kernel))
theorem dX12_scopes_8 : decode cX12_scopes 8 = .ok (.iconst 0, 1) := dq_3 (fd_r fcX12_scopes (by decide +kernel))
theorem dX12_scopes_9 : decode cX12_scopes 9 = .ok (.iconst 3, 1) := dq_6 (fd_r fcX12_scopes (by decide +kernel))
theorem dX12_scopes_10 : decode cX12_scopes 10 = .ok (.invokestatic 362, 3) := dq_184 (a := 1) (b := 106) (fd_r fcX12_scopes (by decide +kernel)) rfl
theorem dX12_scopes_13 : decode cX12_scopes 13 = .ok (.ifCond .eq 12, 3) := dq_153 (a := 0) (b := 12) (fd_r fcX12_scopes (by decide +kernel)) rfl
theorem dX12_scopes_16 : decode cX12_scopes 16 = .ok (.iload_n 2, 1) := dq_28 (fd_r fcX12_scopes (by decide +kernel))
theorem dX12_scopes_17 : decode cX12_scopes 17 = .ok (.iconst 0, 1) := dq_3 (fd_r fcX12_scopes (by decide +kernel))
theorem dX12_scopes_18 : decode cX12_scopes 18 = .ok (.iconst 3, 1) := dq_6 (fd_r fcX12_scopes (by decide +kernel))
theorem dX12_scopes_19 : decode cX12_scopes 19 = .ok (.invokestatic 362, 3) := dq_184 (a := 1) (b := 106) (fd_r fcX12_scopes (by decide +kernel)) rfl
theorem dX12_scopes_22 : decode cX12_scopes 22 = .ok (.ifCond .ne 5, 3) := dq_154 (a := 0) (b := 5) (fd_r fcX12_scopes (by decide +kernel)) rfl
theorem dX12_scopes_25 : decode cX12_scopes 25 = .ok (.iconst (-1), 1) := dq_2 (fd_r fcX12_scopes (by decide +kernel))
end
section
theorem dX12_scopes_26 : decode cX12_scopes 26 = .ok (.ireturn, 1) := dq_172 (fd_r fcX12_scopes (by decide +kernel))
theorem dX12_scopes_27 : decode cX12_scopes 27 = .ok (.aload_n 0, 1) := dq_42 (fd_r fcX12_scopes (by decide +kernel))
theorem dX12_scopes_28 : decode cX12_scopes 28 = .ok (.iconst 0, 1) := dq_3 (fd_r fcX12_scopes (by decide +kernel))
theorem dX12_scopes_29 : decode cX12_scopes 29 = .ok (.iload_n 1, 1) := dq_27 (fd_r fcX12_scopes (by decide +kernel))
theorem dX12_scopes_30 : decode cX12_scopes 30 = .ok (.invokevirtual 581, 3) := dq_182 (a := 2) (b := 69) (fd_r fcX12_scopes (by decide +kernel)) rfl
theorem dX12_scopes_33 : decode cX12_scopes 33 = .ok (.aload_n 0, 1) := dq_42 (fd_r fcX12_scopes (by decide +kernel))
theorem dX12_scopes_34 : decode cX12_scopes 34 = .ok (.invokevirtual 605, 3) := dq_182 (a := 2) (b := 93) (fd_r fcX12_scopes (by decide +kernel)) rfl
theorem dX12_scopes_37 : decode cX12_scopes 37 = .ok (.iload_n 2, 1) := dq_28 (fd_r fcX12_scopes (by decide +kernel))
theorem dX12_scopes_38 : decode cX12_scopes 38 = .ok (.iconst 3, 1) := dq_6 (fd_r fcX12_scopes (by decide +kernel))
theorem dX12_scopes_39 : decode cX12_scopes 39 = .ok (.if_icmp .ne 28, 3) := dq_160 (a := 0) (b := 28) (fd_r fcX12_scopes (by decide +kernel)) rfl
theorem dX12_scopes_42 : decode cX12_scopes 42 = .ok (.iload_n 3, 1) := dq_29 (fd_r fcX12_scopes (by decide +kernel))
theorem dX12_scopes_43 : decode cX12_scopes 43 = .ok (.iconst 0, 1) := dq_3 (fd_r fcX12_scopes (by decide +kernel))
theorem dX12_scopes_44 : decode cX12_scopes 44 = .ok (.aload_n 0, 1) := dq_42 (fd_r fcX12_scopes (by decide +kernel))
theorem dX12_scopes_45 : decode cX12_scopes 45 = .ok (.getfield 279, 3) := dq_180 (a := 1) (b := 23) (fd_r fcX12_scopes (by decide +kernel)) rfl
theorem dX12_scopes_48 : decode cX12_scopes 48 = .ok (.iconst 1, 1) := dq_4 (fd_r fcX12_scopes (by decide +kernel))
theorem dX12_scopes_49 : decode cX12_scopes 49 = .ok (.isub, 1) := dq_100 (fd_r fcX12_scopes (by decide +kernel))
theorem dX12_scopes_50 : decode cX12_scopes 50 = .ok (.invokestatic 362, 3) := dq_184 (a := 1) (b := 106) (fd_r fcX12_scopes (by decide +kernel)) rfl
theorem dX12_scopes_53 : decode cX12_scopes 53 = .ok (.ifCond .eq 12, 3) := dq_153 (a := 0) (b := 12) (fd_r fcX12_scopes (by decide +kernel)) rfl
theorem dX12_scopes_56 : decode cX12_scopes 56 = .ok (.aload_n 0, 1) := dq_42 (fd_r fcX12_scopes (by decide +kernel))
theorem dX12_scopes_57 : decode cX12_scopes 57 = .ok (.getfield 273, 3) := dq_180 (a := 1) (b := 17) (fd_r fcX12_scopes (by decide +kernel)) rfl
theorem dX12_scopes_60 : decode cX12_scopes 60 = .ok (.iload_n 3, 1) := dq_29 (fd_r fcX12_scopes (by decide +kernel))
theorem dX12_scopes_61 : decode cX12_scopes 61 = .ok (.iaload, 1) := dq_46 (fd_r fcX12_scopes (by decide +kernel))
theorem dX12_scopes_62 : decode cX12_scopes 62 = .ok (.goto 4, 3) := dq_167 (a := 0) (b := 4) (fd_r fcX12_scopes (by decide +kernel)) rfl
theorem dX12_scopes_65 : decode cX12_scopes 65 = .ok (.iconst (-1), 1) := dq_2 (fd_r fcX12_scopes (by decide +kernel))
theorem dX12_scopes_66 : decode cX12_scopes 66 = .ok (.ireturn, 1) := dq_172 (fd_r fcX12_scopes (by decide +kernel))
theorem dX12_scopes_67 : decode cX12_scopes 67 = .ok (.iload_n 2, 1) := dq_28 (fd_r fcX12_scopes (by decide +kernel))
theorem dX12_scopes_68 : decode cX12_scopes 68 = .ok (.ifCond .ne 10, 3) := dq_154 (a := 0) (b := 10) (fd_r fcX12_scopes (by decide +kernel)) rfl
theorem dX12_scopes_71 : decode cX12_scopes 71 = .ok (.aload_n 0, 1) := dq_42 (fd_r fcX12_scopes (by decide +kernel))
theorem dX12_scopes_72 : decode cX12_scopes 72 = .ok (.getfield 276, 3) := dq_180 (a := 1) (b := 20) (fd_r fcX12_scopes (by decide +kernel)) rfl
theorem dX12_scopes_75 : decode cX12_scopes 75 = .ok (.goto 27, 3) := dq_167 (a := 0) (b := 27) (fd_r fcX12_scopes (by decide +kernel)) rfl
theorem dX12_scopes_78 : decode cX12_scopes 78 = .ok (.iload_n 2, 1) := dq_28 (fd_r fcX12_scopes (by decide +kernel))
theorem dX12_scopes_79 : decode cX12_scopes 79 = .ok (.iconst 1, 1) := dq_4 (fd_r fcX12_scopes (by decide +kernel))
theorem dX12_scopes_80 : decode cX12_scopes 80 = .ok (.if_icmp .ne 10, 3) := dq_160 (a := 0) (b := 10) (fd_r fcX12_scopes (by decide +kernel)) rfl
theorem dX12_scopes_83 : decode cX12_scopes 83 = .ok (.aload_n 0, 1) := dq_42 (fd_r fcX12_scopes (by decide +kernel))
theorem dX12_scopes_84 : decode cX12_scopes 84 = .ok (.getfield 282, 3) := dq_180 (a := 1) (b := 26) (fd_r fcX12_scopes (by decide +kernel)) rfl
theorem dX12_scopes_87 : decode cX12_scopes 87 = .ok (.goto 15, 3) := dq_167 (a := 0) (b := 15) (fd_r fcX12_scopes (by decide +kernel)) rfl
theorem dX12_scopes_90 : decode cX12_scopes 90 = .ok (.aload_n 0, 1) := dq_42 (fd_r fcX12_scopes (by decide +kernel))
theorem dX12_scopes_91 : decode cX12_scopes 91 = .ok (.getfield 285, 3) := dq_180 (a := 1) (b := 29) (fd_r fcX12_scopes (by decide +kernel)) rfl
theorem dX12_scopes_94 : decode cX12_scopes 94 = .ok (.ifCond .eq 7, 3) := dq_153 (a := 0) (b := 7) (fd_r fcX12_scopes (by decide +kernel)) rfl
theorem dX12_scopes_97 : decode cX12_scopes 97 = .ok (.iconst 1, 1) := dq_4 (fd_r fcX12_scopes (by decide +kernel))
theorem dX12_scopes_98 : decode cX12_scopes 98 = .ok (.goto 4, 3) := dq_167 (a := 0) (b := 4) (fd_r fcX12_scopes (by decide +kernel)) rfl
theorem dX12_scopes_101 : decode cX12_scopes 101 = .ok (.iconst 0, 1) := dq_3 (fd_r fcX12_scopes (by decide +kernel))
theorem dX12_scopes_102 : decode cX12_scopes 102 = .ok (.ireturn, 1) := dq_172 (fd_r fcX12_scopes (by decide +kernel))
theorem dX12_swapped_0 : decode cX12_swapped 0 = .ok (.iload_n 0, 1) := dq_26 (fd_r fcX12_swapped (by decide +kernel))
theorem dX12_swapped_1 : decode cX12_swapped 1 = .ok (.iload_n 1, 1) := dq_27 (fd_r fcX12_swapped (by decide +kernel))
theorem dX12_swapped_2 : decode cX12_swapped 2 = .ok (.ishr, 1) := dq_122 (fd_r fcX12_swapped (by decide +kernel))
theorem dX12_swapped_3 : decode cX12_swapped 3 = .ok (.iconst 1, 1) := dq_4 (fd_r fcX12_swapped (by decide +kernel))
theorem dX12_swapped_4 : decode cX12_swapped 4 = .ok (.iand, 1) := dq_126 (fd_r fcX12_swapped (by decide +kernel))
theorem dX12_swapped_5 : decode cX12_swapped 5 = .ok (.iload_n 0, 1) := dq_26 (fd_r fcX12_swapped (by decide +kernel))
theorem dX12_swapped_6 : decode cX12_swapped 6 = .ok (.iload_n 2, 1) := dq_28 (fd_r fcX12_swapped (by decide +kernel))
theorem dX12_swapped_7 : decode cX12_swapped 7 = .ok (.ishr, 1) := dq_122 (fd_r fcX12_swapped (by decide +kernel))
theorem dX12_swapped_8 : decode cX12_swapped 8 = .ok (.iconst 1, 1) := dq_4 (fd_r fcX12_swapped (by decide +kernel))
theorem dX12_swapped_9 : decode cX12_swapped 9 = .ok (.iand, 1) := dq_126 (fd_r fcX12_swapped (by decide +kernel))
theorem dX12_swapped_10 : decode cX12_swapped 10 = .ok (.if_icmp .ne 5, 3) := dq_160 (a := 0) (b := 5) (fd_r fcX12_swapped (by decide +kernel)) rfl
theorem dX12_swapped_13 : decode cX12_swapped 13 = .ok (.iload_n 0, 1) := dq_26 (fd_r fcX12_swapped (by decide +kernel))
theorem dX12_swapped_14 : decode cX12_swapped 14 = .ok (.ireturn, 1) := dq_172 (fd_r fcX12_swapped (by decide +kernel))
theorem dX12_swapped_15 : decode cX12_swapped 15 = .ok (.iload_n 0, 1) := dq_26 (fd_r fcX12_swapped (by decide +kernel))
theorem dX12_swapped_16 : decode cX12_swapped 16 = .ok (.iconst 1, 1) := dq_4 (fd_r fcX12_swapped (by decide +kernel))
theorem dX12_swapped_17 : decode cX12_swapped 17 = .ok (.iload_n 1, 1) := dq_27 (fd_r fcX12_swapped (by decide +kernel))
theorem dX12_swapped_18 : decode cX12_swapped 18 = .ok (.ishl, 1) := dq_120 (fd_r fcX12_swapped (by decide +kernel))
theorem dX12_swapped_19 : decode cX12_swapped 19 = .ok (.iconst 1, 1) := dq_4 (fd_r fcX12_swapped (by decide +kernel))
theorem dX12_swapped_20 : decode cX12_swapped 20 = .ok (.iload_n 2, 1) := dq_28 (fd_r fcX12_swapped (by decide +kernel))
theorem dX12_swapped_21 : decode cX12_swapped 21 = .ok (.ishl, 1) := dq_120 (fd_r fcX12_swapped (by decide +kernel))
theorem dX12_swapped_22 : decode cX12_swapped 22 = .ok (.ior, 1) := dq_128 (fd_r fcX12_swapped (by decide +kernel))
theorem dX12_swapped_23 : decode cX12_swapped 23 = .ok (.ixor, 1) := dq_130 (fd_r fcX12_swapped (by decide +kernel))
theorem dX12_swapped_24 : decode cX12_swapped 24 = .ok (.ireturn, 1) := dq_172 (fd_r fcX12_swapped (by decide +kernel))
theorem dX12_moved_0 : decode cX12_moved 0 = .ok (.iload_n 0, 1) := dq_26 (fd_r fcX12_moved (by decide +kernel))
theorem dX12_moved_1 : decode cX12_moved 1 = .ok (.iload_n 1, 1) := dq_27 (fd_r fcX12_moved (by decide +kernel))
theorem dX12_moved_2 : decode cX12_moved 2 = .ok (.if_icmp .ne 7, 3) := dq_160 (a := 0) (b := 7) (fd_r fcX12_moved (by decide +kernel)) rfl
theorem dX12_moved_5 : decode cX12_moved 5 = .ok (.iload_n 2, 1) := dq_28 (fd_r fcX12_moved (by decide +kernel))
theorem dX12_moved_6 : decode cX12_moved 6 = .ok (.goto 13, 3) := dq_167 (a := 0) (b := 13) (fd_r fcX12_moved (by decide +kernel)) rfl
theorem dX12_moved_9 : decode cX12_moved 9 = .ok (.iload_n 0, 1) := dq_26 (fd_r fcX12_moved (by decide +kernel))
theorem dX12_moved_10 : decode cX12_moved 10 = .ok (.iload_n 2, 1) := dq_28 (fd_r fcX12_moved (by decide +kernel))
theorem dX12_moved_11 : decode cX12_moved 11 = .ok (.if_icmp .ne 7, 3) := dq_160 (a := 0) (b := 7) (fd_r fcX12_moved (by decide +kernel)) rfl
theorem dX12_moved_14 : decode cX12_moved 14 = .ok (.iload_n 1, 1) := dq_27 (fd_r fcX12_moved (by decide +kernel))
theorem dX12_moved_15 : decode cX12_moved 15 = .ok (.goto 4, 3) := dq_167 (a := 0) (b := 4) (fd_r fcX12_moved (by decide +kernel)) rfl
theorem dX12_moved_18 : decode cX12_moved 18 = .ok (.iload_n 0, 1) := dq_26 (fd_r fcX12_moved (by decide +kernel))
theorem dX12_moved_19 : decode cX12_moved 19 = .ok (.ireturn, 1) := dq_172 (fd_r fcX12_moved (by decide +kernel))
theorem dX12_isSafe_0 : decode cX12_isSafe 0 = .ok (.iconst 0, 1) := dq_3 (fd_r fcX12_isSafe (by decide +kernel))
theorem dX12_isSafe_1 : decode cX12_isSafe 1 = .ok (.istore_n 3, 1) := dq_62 (fd_r fcX12_isSafe (by decide +kernel))
theorem dX12_isSafe_2 : decode cX12_isSafe 2 = .ok (.iload_n 3, 1) := dq_29 (fd_r fcX12_isSafe (by decide +kernel))
theorem dX12_isSafe_3 : decode cX12_isSafe 3 = .ok (.sipush 256, 3) := dq_17 (a := 1) (b := 0) (fd_r fcX12_isSafe (by decide +kernel)) rfl
theorem dX12_isSafe_6 : decode cX12_isSafe 6 = .ok (.if_icmp .ge 95, 3) := dq_162 (a := 0) (b := 95) (fd_r fcX12_isSafe (by decide +kernel)) rfl
theorem dX12_isSafe_9 : decode cX12_isSafe 9 = .ok (.aload_n 0, 1) := dq_42 (fd_r fcX12_isSafe (by decide +kernel))
theorem dX12_isSafe_10 : decode cX12_isSafe 10 = .ok (.iload_n 3, 1) := dq_29 (fd_r fcX12_isSafe (by decide +kernel))
theorem dX12_isSafe_11 : decode cX12_isSafe 11 = .ok (.invokevirtual 492, 3) := dq_182 (a := 1) (b := 236) (fd_r fcX12_isSafe (by decide +kernel)) rfl
theorem dX12_isSafe_14 : decode cX12_isSafe 14 = .ok (.istore 4, 2) := dq_54 (a := 4) (fd_r fcX12_isSafe (by decide +kernel))
theorem dX12_isSafe_16 : decode cX12_isSafe 16 = .ok (.iconst 0, 1) := dq_3 (fd_r fcX12_isSafe (by decide +kernel))
theorem dX12_isSafe_17 : decode cX12_isSafe 17 = .ok (.istore 5, 2) := dq_54 (a := 5) (fd_r fcX12_isSafe (by decide +kernel))
theorem dX12_isSafe_19 : decode cX12_isSafe 19 = .ok (.iload 5, 2) := dq_21 (a := 5) (fd_r fcX12_isSafe (by decide +kernel))
theorem dX12_isSafe_21 : decode cX12_isSafe 21 = .ok (.sipush 4096, 3) := dq_17 (a := 16) (b := 0) (fd_r fcX12_isSafe (by decide +kernel)) rfl
theorem dX12_isSafe_24 : decode cX12_isSafe 24 = .ok (.if_icmp .ge 71, 3) := dq_162 (a := 0) (b := 71) (fd_r fcX12_isSafe (by decide +kernel)) rfl
theorem dX12_isSafe_27 : decode cX12_isSafe 27 = .ok (.aload_n 0, 1) := dq_42 (fd_r fcX12_isSafe (by decide +kernel))
theorem dX12_isSafe_28 : decode cX12_isSafe 28 = .ok (.getfield 218, 3) := dq_180 (a := 0) (b := 218) (fd_r fcX12_isSafe (by decide +kernel)) rfl
theorem dX12_isSafe_31 : decode cX12_isSafe 31 = .ok (.iload 5, 2) := dq_21 (a := 5) (fd_r fcX12_isSafe (by decide +kernel))
theorem dX12_isSafe_33 : decode cX12_isSafe 33 = .ok (.iaload, 1) := dq_46 (fd_r fcX12_isSafe (by decide +kernel))
theorem dX12_isSafe_34 : decode cX12_isSafe 34 = .ok (.ifCond .ne 6, 3) := dq_154 (a := 0) (b := 6) (fd_r fcX12_isSafe (by decide +kernel)) rfl
theorem dX12_isSafe_37 : decode cX12_isSafe 37 = .ok (.goto 52, 3) := dq_167 (a := 0) (b := 52) (fd_r fcX12_isSafe (by decide +kernel)) rfl
theorem dX12_isSafe_40 : decode cX12_isSafe 40 = .ok (.iload 5, 2) := dq_21 (a := 5) (fd_r fcX12_isSafe (by decide +kernel))
theorem dX12_isSafe_42 : decode cX12_isSafe 42 = .ok (.iload 4, 2) := dq_21 (a := 4) (fd_r fcX12_isSafe (by decide +kernel))
theorem dX12_isSafe_44 : decode cX12_isSafe 44 = .ok (.iand, 1) := dq_126 (fd_r fcX12_isSafe (by decide +kernel))
theorem dX12_isSafe_45 : decode cX12_isSafe 45 = .ok (.invokestatic 495, 3) := dq_184 (a := 1) (b := 239) (fd_r fcX12_isSafe (by decide +kernel)) rfl
theorem dX12_isSafe_48 : decode cX12_isSafe 48 = .ok (.istore 6, 2) := dq_54 (a := 6) (fd_r fcX12_isSafe (by decide +kernel))
theorem dX12_isSafe_50 : decode cX12_isSafe 50 = .ok (.iload 5, 2) := dq_21 (a := 5) (fd_r fcX12_isSafe (by decide +kernel))
theorem dX12_isSafe_52 : decode cX12_isSafe 52 = .ok (.iload 4, 2) := dq_21 (a := 4) (fd_r fcX12_isSafe (by decide +kernel))
theorem dX12_isSafe_54 : decode cX12_isSafe 54 = .ok (.iand, 1) := dq_126 (fd_r fcX12_isSafe (by decide +kernel))
theorem dX12_isSafe_55 : decode cX12_isSafe 55 = .ok (.iload_n 1, 1) := dq_27 (fd_r fcX12_isSafe (by decide +kernel))
theorem dX12_isSafe_56 : decode cX12_isSafe 56 = .ok (.iload_n 2, 1) := dq_28 (fd_r fcX12_isSafe (by decide +kernel))
theorem dX12_isSafe_57 : decode cX12_isSafe 57 = .ok (.invokestatic 608, 3) := dq_184 (a := 2) (b := 96) (fd_r fcX12_isSafe (by decide +kernel)) rfl
theorem dX12_isSafe_60 : decode cX12_isSafe 60 = .ok (.invokestatic 495, 3) := dq_184 (a := 1) (b := 239) (fd_r fcX12_isSafe (by decide +kernel)) rfl
theorem dX12_isSafe_63 : decode cX12_isSafe 63 = .ok (.istore 7, 2) := dq_54 (a := 7) (fd_r fcX12_isSafe (by decide +kernel))
theorem dX12_isSafe_65 : decode cX12_isSafe 65 = .ok (.iload 6, 2) := dq_21 (a := 6) (fd_r fcX12_isSafe (by decide +kernel))
theorem dX12_isSafe_67 : decode cX12_isSafe 67 = .ok (.iload 7, 2) := dq_21 (a := 7) (fd_r fcX12_isSafe (by decide +kernel))
theorem dX12_isSafe_69 : decode cX12_isSafe 69 = .ok (.iconst (-1), 1) := dq_2 (fd_r fcX12_isSafe (by decide +kernel))
theorem dX12_isSafe_70 : decode cX12_isSafe 70 = .ok (.if_icmp .ne 7, 3) := dq_160 (a := 0) (b := 7) (fd_r fcX12_isSafe (by decide +kernel)) rfl
theorem dX12_isSafe_73 : decode cX12_isSafe 73 = .ok (.iconst (-1), 1) := dq_2 (fd_r fcX12_isSafe (by decide +kernel))
theorem dX12_isSafe_74 : decode cX12_isSafe 74 = .ok (.goto 10, 3) := dq_167 (a := 0) (b := 10) (fd_r fcX12_isSafe (by decide +kernel)) rfl
theorem dX12_isSafe_77 : decode cX12_isSafe 77 = .ok (.iload 7, 2) := dq_21 (a := 7) (fd_r fcX12_isSafe (by decide +kernel))
theorem dX12_isSafe_79 : decode cX12_isSafe 79 = .ok (.iload_n 1, 1) := dq_27 (fd_r fcX12_isSafe (by decide +kernel))
theorem dX12_isSafe_80 : decode cX12_isSafe 80 = .ok (.iload_n 2, 1) := dq_28 (fd_r fcX12_isSafe (by decide +kernel))
theorem dX12_isSafe_81 : decode cX12_isSafe 81 = .ok (.invokestatic 611, 3) := dq_184 (a := 2) (b := 99) (fd_r fcX12_isSafe (by decide +kernel)) rfl
theorem dX12_isSafe_84 : decode cX12_isSafe 84 = .ok (.if_icmp .eq 5, 3) := dq_159 (a := 0) (b := 5) (fd_r fcX12_isSafe (by decide +kernel)) rfl
theorem dX12_isSafe_87 : decode cX12_isSafe 87 = .ok (.iconst 0, 1) := dq_3 (fd_r fcX12_isSafe (by decide +kernel))
theorem dX12_isSafe_88 : decode cX12_isSafe 88 = .ok (.ireturn, 1) := dq_172 (fd_r fcX12_isSafe (by decide +kernel))
theorem dX12_isSafe_89 : decode cX12_isSafe 89 = .ok (.iinc 5 1, 3) := dq_132 (a := 5) (b := 1) (fd_r fcX12_isSafe (by decide +kernel)) rfl
theorem dX12_isSafe_92 : decode cX12_isSafe 92 = .ok (.goto (-73), 3) := dq_167 (a := 255) (b := 183) (fd_r fcX12_isSafe (by decide +kernel)) rfl
theorem dX12_isSafe_95 : decode cX12_isSafe 95 = .ok (.iinc 3 1, 3) := dq_132 (a := 3) (b := 1) (fd_r fcX12_isSafe (by decide +kernel)) rfl
theorem dX12_isSafe_98 : decode cX12_isSafe 98 = .ok (.goto (-96), 3) := dq_167 (a := 255) (b := 160) (fd_r fcX12_isSafe (by decide +kernel)) rfl
theorem dX12_isSafe_101 : decode cX12_isSafe 101 = .ok (.iconst 1, 1) := dq_4 (fd_r fcX12_isSafe (by decide +kernel))
theorem dX12_isSafe_102 : decode cX12_isSafe 102 = .ok (.ireturn, 1) := dq_172 (fd_r fcX12_isSafe (by decide +kernel))
theorem dX12_safe_0 : decode cX12_safe 0 = .ok (.aload_n 0, 1) := dq_42 (fd_r fcX12_safe (by decide +kernel))
theorem dX12_safe_1 : decode cX12_safe 1 = .ok (.iload_n 1, 1) := dq_27 (fd_r fcX12_safe (by decide +kernel))
theorem dX12_safe_2 : decode cX12_safe 2 = .ok (.invokevirtual 498, 3) := dq_182 (a := 1) (b := 242) (fd_r fcX12_safe (by decide +kernel)) rfl
theorem dX12_safe_5 : decode cX12_safe 5 = .ok (.ifCond .eq 11, 3) := dq_153 (a := 0) (b := 11) (fd_r fcX12_safe (by decide +kernel)) rfl
theorem dX12_safe_8 : decode cX12_safe 8 = .ok (.aload_n 0, 1) := dq_42 (fd_r fcX12_safe (by decide +kernel))
theorem dX12_safe_9 : decode cX12_safe 9 = .ok (.iload_n 2, 1) := dq_28 (fd_r fcX12_safe (by decide +kernel))
theorem dX12_safe_10 : decode cX12_safe 10 = .ok (.invokevirtual 498, 3) := dq_182 (a := 1) (b := 242) (fd_r fcX12_safe (by decide +kernel)) rfl
theorem dX12_safe_13 : decode cX12_safe 13 = .ok (.ifCond .ne 5, 3) := dq_154 (a := 0) (b := 5) (fd_r fcX12_safe (by decide +kernel)) rfl
theorem dX12_safe_16 : decode cX12_safe 16 = .ok (.iconst (-1), 1) := dq_2 (fd_r fcX12_safe (by decide +kernel))
theorem dX12_safe_17 : decode cX12_safe 17 = .ok (.ireturn, 1) := dq_172 (fd_r fcX12_safe (by decide +kernel))
theorem dX12_safe_18 : decode cX12_safe 18 = .ok (.aload_n 0, 1) := dq_42 (fd_r fcX12_safe (by decide +kernel))
theorem dX12_safe_19 : decode cX12_safe 19 = .ok (.iconst 0, 1) := dq_3 (fd_r fcX12_safe (by decide +kernel))
theorem dX12_safe_20 : decode cX12_safe 20 = .ok (.invokevirtual 501, 3) := dq_182 (a := 1) (b := 245) (fd_r fcX12_safe (by decide +kernel)) rfl
theorem dX12_safe_23 : decode cX12_safe 23 = .ok (.aload_n 0, 1) := dq_42 (fd_r fcX12_safe (by decide +kernel))
theorem dX12_safe_24 : decode cX12_safe 24 = .ok (.invokevirtual 504, 3) := dq_182 (a := 1) (b := 248) (fd_r fcX12_safe (by decide +kernel)) rfl
theorem dX12_safe_27 : decode cX12_safe 27 = .ok (.aload_n 0, 1) := dq_42 (fd_r fcX12_safe (by decide +kernel))
theorem dX12_safe_28 : decode cX12_safe 28 = .ok (.iload_n 1, 1) := dq_27 (fd_r fcX12_safe (by decide +kernel))
theorem dX12_safe_29 : decode cX12_safe 29 = .ok (.iload_n 2, 1) := dq_28 (fd_r fcX12_safe (by decide +kernel))
theorem dX12_safe_30 : decode cX12_safe 30 = .ok (.invokevirtual 614, 3) := dq_182 (a := 2) (b := 102) (fd_r fcX12_safe (by decide +kernel)) rfl
theorem dX12_safe_33 : decode cX12_safe 33 = .ok (.ifCond .eq 7, 3) := dq_153 (a := 0) (b := 7) (fd_r fcX12_safe (by decide +kernel)) rfl
theorem dX12_safe_36 : decode cX12_safe 36 = .ok (.iconst 1, 1) := dq_4 (fd_r fcX12_safe (by decide +kernel))
theorem dX12_safe_37 : decode cX12_safe 37 = .ok (.goto 4, 3) := dq_167 (a := 0) (b := 4) (fd_r fcX12_safe (by decide +kernel)) rfl
theorem dX12_safe_40 : decode cX12_safe 40 = .ok (.iconst 0, 1) := dq_3 (fd_r fcX12_safe (by decide +kernel))
theorem dX12_safe_41 : decode cX12_safe 41 = .ok (.ireturn, 1) := dq_172 (fd_r fcX12_safe (by decide +kernel))
theorem dX12_exchanges_0 : decode cX12_exchanges 0 = .ok (.aload_n 0, 1) := dq_42 (fd_r fcX12_exchanges (by decide +kernel))
theorem dX12_exchanges_1 : decode cX12_exchanges 1 = .ok (.getfield 176, 3) := dq_180 (a := 0) (b := 176) (fd_r fcX12_exchanges (by decide +kernel)) rfl
theorem dX12_exchanges_4 : decode cX12_exchanges 4 = .ok (.bipush 12, 2) := dq_16 (a := 12) (fd_r fcX12_exchanges (by decide +kernel)) rfl
theorem dX12_exchanges_6 : decode cX12_exchanges 6 = .ok (.iload_n 1, 1) := dq_27 (fd_r fcX12_exchanges (by decide +kernel))
theorem dX12_exchanges_7 : decode cX12_exchanges 7 = .ok (.imul, 1) := dq_104 (fd_r fcX12_exchanges (by decide +kernel))
theorem dX12_exchanges_8 : decode cX12_exchanges 8 = .ok (.iload_n 2, 1) := dq_28 (fd_r fcX12_exchanges (by decide +kernel))
theorem dX12_exchanges_9 : decode cX12_exchanges 9 = .ok (.iadd, 1) := dq_96 (fd_r fcX12_exchanges (by decide +kernel))
theorem dX12_exchanges_10 : decode cX12_exchanges 10 = .ok (.iaload, 1) := dq_46 (fd_r fcX12_exchanges (by decide +kernel))
theorem dX12_exchanges_11 : decode cX12_exchanges 11 = .ok (.istore 4, 2) := dq_54 (a := 4) (fd_r fcX12_exchanges (by decide +kernel))
theorem dX12_exchanges_13 : decode cX12_exchanges 13 = .ok (.aload_n 0, 1) := dq_42 (fd_r fcX12_exchanges (by decide +kernel))
theorem dX12_exchanges_14 : decode cX12_exchanges 14 = .ok (.getfield 176, 3) := dq_180 (a := 0) (b := 176) (fd_r fcX12_exchanges (by decide +kernel)) rfl
theorem dX12_exchanges_17 : decode cX12_exchanges 17 = .ok (.bipush 12, 2) := dq_16 (a := 12) (fd_r fcX12_exchanges (by decide +kernel)) rfl
theorem dX12_exchanges_19 : decode cX12_exchanges 19 = .ok (.iload_n 1, 1) := dq_27 (fd_r fcX12_exchanges (by decide +kernel))
theorem dX12_exchanges_20 : decode cX12_exchanges 20 = .ok (.imul, 1) := dq_104 (fd_r fcX12_exchanges (by decide +kernel))
theorem dX12_exchanges_21 : decode cX12_exchanges 21 = .ok (.iload_n 2, 1) := dq_28 (fd_r fcX12_exchanges (by decide +kernel))
theorem dX12_exchanges_22 : decode cX12_exchanges 22 = .ok (.iadd, 1) := dq_96 (fd_r fcX12_exchanges (by decide +kernel))
theorem dX12_exchanges_23 : decode cX12_exchanges 23 = .ok (.aload_n 0, 1) := dq_42 (fd_r fcX12_exchanges (by decide +kernel))
theorem dX12_exchanges_24 : decode cX12_exchanges 24 = .ok (.getfield 176, 3) := dq_180 (a := 0) (b := 176) (fd_r fcX12_exchanges (by decide +kernel)) rfl
theorem dX12_exchanges_27 : decode cX12_exchanges 27 = .ok (.bipush 12, 2) := dq_16 (a := 12) (fd_r fcX12_exchanges (by decide +kernel)) rfl
theorem dX12_exchanges_29 : decode cX12_exchanges 29 = .ok (.iload_n 1, 1) := dq_27 (fd_r fcX12_exchanges (by decide +kernel))
theorem dX12_exchanges_30 : decode cX12_exchanges 30 = .ok (.imul, 1) := dq_104 (fd_r fcX12_exchanges (by decide +kernel))
theorem dX12_exchanges_31 : decode cX12_exchanges 31 = .ok (.iload_n 3, 1) := dq_29 (fd_r fcX12_exchanges (by decide +kernel))
theorem dX12_exchanges_32 : decode cX12_exchanges 32 = .ok (.iadd, 1) := dq_96 (fd_r fcX12_exchanges (by decide +kernel))
theorem dX12_exchanges_33 : decode cX12_exchanges 33 = .ok (.iaload, 1) := dq_46 (fd_r fcX12_exchanges (by decide +kernel))
theorem dX12_exchanges_34 : decode cX12_exchanges 34 = .ok (.iastore, 1) := dq_79 (fd_r fcX12_exchanges (by decide +kernel))
theorem dX12_exchanges_35 : decode cX12_exchanges 35 = .ok (.aload_n 0, 1) := dq_42 (fd_r fcX12_exchanges (by decide +kernel))
theorem dX12_exchanges_36 : decode cX12_exchanges 36 = .ok (.getfield 176, 3) := dq_180 (a := 0) (b := 176) (fd_r fcX12_exchanges (by decide +kernel)) rfl
theorem dX12_exchanges_39 : decode cX12_exchanges 39 = .ok (.bipush 12, 2) := dq_16 (a := 12) (fd_r fcX12_exchanges (by decide +kernel)) rfl
theorem dX12_exchanges_41 : decode cX12_exchanges 41 = .ok (.iload_n 1, 1) := dq_27 (fd_r fcX12_exchanges (by decide +kernel))
theorem dX12_exchanges_42 : decode cX12_exchanges 42 = .ok (.imul, 1) := dq_104 (fd_r fcX12_exchanges (by decide +kernel))
theorem dX12_exchanges_43 : decode cX12_exchanges 43 = .ok (.iload_n 3, 1) := dq_29 (fd_r fcX12_exchanges (by decide +kernel))
theorem dX12_exchanges_44 : decode cX12_exchanges 44 = .ok (.iadd, 1) := dq_96 (fd_r fcX12_exchanges (by decide +kernel))
theorem dX12_exchanges_45 : decode cX12_exchanges 45 = .ok (.iload 4, 2) := dq_21 (a := 4) (fd_r fcX12_exchanges (by decide +kernel))
theorem dX12_exchanges_47 : decode cX12_exchanges 47 = .ok (.iastore, 1) := dq_79 (fd_r fcX12_exchanges (by decide +kernel))
theorem dX12_exchanges_48 : decode cX12_exchanges 48 = .ok (.return_, 1) := dq_177 (fd_r fcX12_exchanges (by decide +kernel))
theorem dX12_best_0 : decode cX12_best 0 = .ok (.aload_n 0, 1) := dq_42 (fd_r fcX12_best (by decide +kernel))
theorem dX12_best_1 : decode cX12_best 1 = .ok (.getfield 146, 3) := dq_180 (a := 0) (b := 146) (fd_r fcX12_best (by decide +kernel)) rfl
theorem dX12_best_4 : decode cX12_best 4 = .ok (.ifCond .eq 12, 3) := dq_153 (a := 0) (b := 12) (fd_r fcX12_best (by decide +kernel)) rfl
theorem dX12_best_7 : decode cX12_best 7 = .ok (.iload_n 1, 1) := dq_27 (fd_r fcX12_best (by decide +kernel))
theorem dX12_best_8 : decode cX12_best 8 = .ok (.iconst 0, 1) := dq_3 (fd_r fcX12_best (by decide +kernel))
theorem dX12_best_9 : decode cX12_best 9 = .ok (.iconst 1, 1) := dq_4 (fd_r fcX12_best (by decide +kernel))
theorem dX12_best_10 : decode cX12_best 10 = .ok (.invokestatic 362, 3) := dq_184 (a := 1) (b := 106) (fd_r fcX12_best (by decide +kernel)) rfl
theorem dX12_best_13 : decode cX12_best 13 = .ok (.ifCond .ne 5, 3) := dq_154 (a := 0) (b := 5) (fd_r fcX12_best (by decide +kernel)) rfl
theorem dX12_best_16 : decode cX12_best 16 = .ok (.iconst (-1), 1) := dq_2 (fd_r fcX12_best (by decide +kernel))
theorem dX12_best_17 : decode cX12_best 17 = .ok (.ireturn, 1) := dq_172 (fd_r fcX12_best (by decide +kernel))
theorem dX12_best_18 : decode cX12_best 18 = .ok (.aload_n 0, 1) := dq_42 (fd_r fcX12_best (by decide +kernel))
theorem dX12_best_19 : decode cX12_best 19 = .ok (.iconst 0, 1) := dq_3 (fd_r fcX12_best (by decide +kernel))
theorem dX12_best_20 : decode cX12_best 20 = .ok (.invokevirtual 501, 3) := dq_182 (a := 1) (b := 245) (fd_r fcX12_best (by decide +kernel)) rfl
theorem dX12_best_23 : decode cX12_best 23 = .ok (.aload_n 0, 1) := dq_42 (fd_r fcX12_best (by decide +kernel))
theorem dX12_best_24 : decode cX12_best 24 = .ok (.invokevirtual 504, 3) := dq_182 (a := 1) (b := 248) (fd_r fcX12_best (by decide +kernel)) rfl
theorem dX12_best_27 : decode cX12_best 27 = .ok (.iconst 0, 1) := dq_3 (fd_r fcX12_best (by decide +kernel))
theorem dX12_best_28 : decode cX12_best 28 = .ok (.istore_n 2, 1) := dq_61 (fd_r fcX12_best (by decide +kernel))
theorem dX12_best_29 : decode cX12_best 29 = .ok (.iload_n 2, 1) := dq_28 (fd_r fcX12_best (by decide +kernel))
theorem dX12_best_30 : decode cX12_best 30 = .ok (.iconst 1, 1) := dq_4 (fd_r fcX12_best (by decide +kernel))
theorem dX12_best_31 : decode cX12_best 31 = .ok (.iadd, 1) := dq_96 (fd_r fcX12_best (by decide +kernel))
theorem dX12_best_32 : decode cX12_best 32 = .ok (.aload_n 0, 1) := dq_42 (fd_r fcX12_best (by decide +kernel))
theorem dX12_best_33 : decode cX12_best 33 = .ok (.getfield 173, 3) := dq_180 (a := 0) (b := 173) (fd_r fcX12_best (by decide +kernel)) rfl
theorem dX12_best_36 : decode cX12_best 36 = .ok (.iconst 0, 1) := dq_3 (fd_r fcX12_best (by decide +kernel))
theorem dX12_best_37 : decode cX12_best 37 = .ok (.iaload, 1) := dq_46 (fd_r fcX12_best (by decide +kernel))
theorem dX12_best_38 : decode cX12_best 38 = .ok (.if_icmp .ge 31, 3) := dq_162 (a := 0) (b := 31) (fd_r fcX12_best (by decide +kernel)) rfl
theorem dX12_best_41 : decode cX12_best 41 = .ok (.aload_n 0, 1) := dq_42 (fd_r fcX12_best (by decide +kernel))
theorem dX12_best_42 : decode cX12_best 42 = .ok (.getfield 288, 3) := dq_180 (a := 1) (b := 32) (fd_r fcX12_best (by decide +kernel)) rfl
theorem dX12_best_45 : decode cX12_best 45 = .ok (.iload_n 2, 1) := dq_28 (fd_r fcX12_best (by decide +kernel))
theorem dX12_best_46 : decode cX12_best 46 = .ok (.aload_n 0, 1) := dq_42 (fd_r fcX12_best (by decide +kernel))
theorem dX12_best_47 : decode cX12_best 47 = .ok (.iload_n 2, 1) := dq_28 (fd_r fcX12_best (by decide +kernel))
theorem dX12_best_48 : decode cX12_best 48 = .ok (.iload_n 2, 1) := dq_28 (fd_r fcX12_best (by decide +kernel))
theorem dX12_best_49 : decode cX12_best 49 = .ok (.iconst 1, 1) := dq_4 (fd_r fcX12_best (by decide +kernel))
theorem dX12_best_50 : decode cX12_best 50 = .ok (.iadd, 1) := dq_96 (fd_r fcX12_best (by decide +kernel))
theorem dX12_best_51 : decode cX12_best 51 = .ok (.invokevirtual 614, 3) := dq_182 (a := 2) (b := 102) (fd_r fcX12_best (by decide +kernel)) rfl
theorem dX12_best_54 : decode cX12_best 54 = .ok (.ifCond .eq 7, 3) := dq_153 (a := 0) (b := 7) (fd_r fcX12_best (by decide +kernel)) rfl
theorem dX12_best_57 : decode cX12_best 57 = .ok (.iconst 1, 1) := dq_4 (fd_r fcX12_best (by decide +kernel))
theorem dX12_best_58 : decode cX12_best 58 = .ok (.goto 4, 3) := dq_167 (a := 0) (b := 4) (fd_r fcX12_best (by decide +kernel)) rfl
theorem dX12_best_61 : decode cX12_best 61 = .ok (.iconst 0, 1) := dq_3 (fd_r fcX12_best (by decide +kernel))
theorem dX12_best_62 : decode cX12_best 62 = .ok (.iastore, 1) := dq_79 (fd_r fcX12_best (by decide +kernel))
theorem dX12_best_63 : decode cX12_best 63 = .ok (.iinc 2 1, 3) := dq_132 (a := 2) (b := 1) (fd_r fcX12_best (by decide +kernel)) rfl
theorem dX12_best_66 : decode cX12_best 66 = .ok (.goto (-37), 3) := dq_167 (a := 255) (b := 219) (fd_r fcX12_best (by decide +kernel)) rfl
theorem dX12_best_69 : decode cX12_best 69 = .ok (.aload_n 0, 1) := dq_42 (fd_r fcX12_best (by decide +kernel))
theorem dX12_best_70 : decode cX12_best 70 = .ok (.iconst 0, 1) := dq_3 (fd_r fcX12_best (by decide +kernel))
theorem dX12_best_71 : decode cX12_best 71 = .ok (.aload_n 0, 1) := dq_42 (fd_r fcX12_best (by decide +kernel))
theorem dX12_best_72 : decode cX12_best 72 = .ok (.getfield 182, 3) := dq_180 (a := 0) (b := 182) (fd_r fcX12_best (by decide +kernel)) rfl
theorem dX12_best_75 : decode cX12_best 75 = .ok (.iconst 0, 1) := dq_3 (fd_r fcX12_best (by decide +kernel))
theorem dX12_best_76 : decode cX12_best 76 = .ok (.iaload, 1) := dq_46 (fd_r fcX12_best (by decide +kernel))
theorem dX12_best_77 : decode cX12_best 77 = .ok (.invokevirtual 581, 3) := dq_182 (a := 2) (b := 69) (fd_r fcX12_best (by decide +kernel)) rfl
theorem dX12_best_80 : decode cX12_best 80 = .ok (.aload_n 0, 1) := dq_42 (fd_r fcX12_best (by decide +kernel))
theorem dX12_best_81 : decode cX12_best 81 = .ok (.iconst 0, 1) := dq_3 (fd_r fcX12_best (by decide +kernel))
theorem dX12_best_82 : decode cX12_best 82 = .ok (.invokevirtual 584, 3) := dq_182 (a := 2) (b := 72) (fd_r fcX12_best (by decide +kernel)) rfl
theorem dX12_best_85 : decode cX12_best 85 = .ok (.istore_n 2, 1) := dq_61 (fd_r fcX12_best (by decide +kernel))
theorem dX12_best_86 : decode cX12_best 86 = .ok (.iconst (-1), 1) := dq_2 (fd_r fcX12_best (by decide +kernel))
theorem dX12_best_87 : decode cX12_best 87 = .ok (.istore_n 3, 1) := dq_62 (fd_r fcX12_best (by decide +kernel))
theorem dX12_best_88 : decode cX12_best 88 = .ok (.iconst 0, 1) := dq_3 (fd_r fcX12_best (by decide +kernel))
theorem dX12_best_89 : decode cX12_best 89 = .ok (.istore 4, 2) := dq_54 (a := 4) (fd_r fcX12_best (by decide +kernel))
theorem dX12_best_91 : decode cX12_best 91 = .ok (.iload 4, 2) := dq_21 (a := 4) (fd_r fcX12_best (by decide +kernel))
theorem dX12_best_93 : decode cX12_best 93 = .ok (.iconst 1, 1) := dq_4 (fd_r fcX12_best (by decide +kernel))
theorem dX12_best_94 : decode cX12_best 94 = .ok (.iadd, 1) := dq_96 (fd_r fcX12_best (by decide +kernel))
theorem dX12_best_95 : decode cX12_best 95 = .ok (.aload_n 0, 1) := dq_42 (fd_r fcX12_best (by decide +kernel))
theorem dX12_best_96 : decode cX12_best 96 = .ok (.getfield 173, 3) := dq_180 (a := 0) (b := 173) (fd_r fcX12_best (by decide +kernel)) rfl
theorem dX12_best_99 : decode cX12_best 99 = .ok (.iconst 0, 1) := dq_3 (fd_r fcX12_best (by decide +kernel))
theorem dX12_best_100 : decode cX12_best 100 = .ok (.iaload, 1) := dq_46 (fd_r fcX12_best (by decide +kernel))
theorem dX12_best_101 : decode cX12_best 101 = .ok (.if_icmp .ge 72, 3) := dq_162 (a := 0) (b := 72) (fd_r fcX12_best (by decide +kernel)) rfl
theorem dX12_best_104 : decode cX12_best 104 = .ok (.aload_n 0, 1) := dq_42 (fd_r fcX12_best (by decide +kernel))
theorem dX12_best_105 : decode cX12_best 105 = .ok (.getfield 288, 3) := dq_180 (a := 1) (b := 32) (fd_r fcX12_best (by decide +kernel)) rfl
theorem dX12_best_108 : decode cX12_best 108 = .ok (.iload 4, 2) := dq_21 (a := 4) (fd_r fcX12_best (by decide +kernel))
theorem dX12_best_110 : decode cX12_best 110 = .ok (.iaload, 1) := dq_46 (fd_r fcX12_best (by decide +kernel))
theorem dX12_best_111 : decode cX12_best 111 = .ok (.ifCond .ne 6, 3) := dq_154 (a := 0) (b := 6) (fd_r fcX12_best (by decide +kernel)) rfl
theorem dX12_best_114 : decode cX12_best 114 = .ok (.goto 53, 3) := dq_167 (a := 0) (b := 53) (fd_r fcX12_best (by decide +kernel)) rfl
theorem dX12_best_117 : decode cX12_best 117 = .ok (.aload_n 0, 1) := dq_42 (fd_r fcX12_best (by decide +kernel))
theorem dX12_best_118 : decode cX12_best 118 = .ok (.iconst 1, 1) := dq_4 (fd_r fcX12_best (by decide +kernel))
theorem dX12_best_119 : decode cX12_best 119 = .ok (.iconst 0, 1) := dq_3 (fd_r fcX12_best (by decide +kernel))
theorem dX12_best_120 : decode cX12_best 120 = .ok (.invokevirtual 472, 3) := dq_182 (a := 1) (b := 216) (fd_r fcX12_best (by decide +kernel)) rfl
theorem dX12_best_123 : decode cX12_best 123 = .ok (.aload_n 0, 1) := dq_42 (fd_r fcX12_best (by decide +kernel))
theorem dX12_best_124 : decode cX12_best 124 = .ok (.iconst 1, 1) := dq_4 (fd_r fcX12_best (by decide +kernel))
theorem dX12_best_125 : decode cX12_best 125 = .ok (.iload 4, 2) := dq_21 (a := 4) (fd_r fcX12_best (by decide +kernel))
theorem dX12_best_127 : decode cX12_best 127 = .ok (.iload 4, 2) := dq_21 (a := 4) (fd_r fcX12_best (by decide +kernel))
theorem dX12_best_129 : decode cX12_best 129 = .ok (.iconst 1, 1) := dq_4 (fd_r fcX12_best (by decide +kernel))
theorem dX12_best_130 : decode cX12_best 130 = .ok (.iadd, 1) := dq_96 (fd_r fcX12_best (by decide +kernel))
theorem dX12_best_131 : decode cX12_best 131 = .ok (.invokevirtual 618, 3) := dq_182 (a := 2) (b := 106) (fd_r fcX12_best (by decide +kernel)) rfl
theorem dX12_best_134 : decode cX12_best 134 = .ok (.aload_n 0, 1) := dq_42 (fd_r fcX12_best (by decide +kernel))
theorem dX12_best_135 : decode cX12_best 135 = .ok (.iconst 1, 1) := dq_4 (fd_r fcX12_best (by decide +kernel))
theorem dX12_best_136 : decode cX12_best 136 = .ok (.aload_n 0, 1) := dq_42 (fd_r fcX12_best (by decide +kernel))
theorem dX12_best_137 : decode cX12_best 137 = .ok (.getfield 182, 3) := dq_180 (a := 0) (b := 182) (fd_r fcX12_best (by decide +kernel)) rfl
theorem dX12_best_140 : decode cX12_best 140 = .ok (.iconst 1, 1) := dq_4 (fd_r fcX12_best (by decide +kernel))
theorem dX12_best_141 : decode cX12_best 141 = .ok (.iaload, 1) := dq_46 (fd_r fcX12_best (by decide +kernel))
theorem dX12_best_142 : decode cX12_best 142 = .ok (.invokevirtual 581, 3) := dq_182 (a := 2) (b := 69) (fd_r fcX12_best (by decide +kernel)) rfl
theorem dX12_best_145 : decode cX12_best 145 = .ok (.aload_n 0, 1) := dq_42 (fd_r fcX12_best (by decide +kernel))
theorem dX12_best_146 : decode cX12_best 146 = .ok (.iconst 1, 1) := dq_4 (fd_r fcX12_best (by decide +kernel))
theorem dX12_best_147 : decode cX12_best 147 = .ok (.invokevirtual 584, 3) := dq_182 (a := 2) (b := 72) (fd_r fcX12_best (by decide +kernel)) rfl
theorem dX12_best_150 : decode cX12_best 150 = .ok (.istore 5, 2) := dq_54 (a := 5) (fd_r fcX12_best (by decide +kernel))
theorem dX12_best_152 : decode cX12_best 152 = .ok (.iload 5, 2) := dq_21 (a := 5) (fd_r fcX12_best (by decide +kernel))
theorem dX12_best_154 : decode cX12_best 154 = .ok (.iload_n 2, 1) := dq_28 (fd_r fcX12_best (by decide +kernel))
theorem dX12_best_155 : decode cX12_best 155 = .ok (.if_icmp .lt 6, 3) := dq_161 (a := 0) (b := 6) (fd_r fcX12_best (by decide +kernel)) rfl
theorem dX12_best_158 : decode cX12_best 158 = .ok (.goto 9, 3) := dq_167 (a := 0) (b := 9) (fd_r fcX12_best (by decide +kernel)) rfl
theorem dX12_best_161 : decode cX12_best 161 = .ok (.iload 5, 2) := dq_21 (a := 5) (fd_r fcX12_best (by decide +kernel))
theorem dX12_best_163 : decode cX12_best 163 = .ok (.istore_n 2, 1) := dq_61 (fd_r fcX12_best (by decide +kernel))
theorem dX12_best_164 : decode cX12_best 164 = .ok (.iload 4, 2) := dq_21 (a := 4) (fd_r fcX12_best (by decide +kernel))
theorem dX12_best_166 : decode cX12_best 166 = .ok (.istore_n 3, 1) := dq_62 (fd_r fcX12_best (by decide +kernel))
theorem dX12_best_167 : decode cX12_best 167 = .ok (.iinc 4 1, 3) := dq_132 (a := 4) (b := 1) (fd_r fcX12_best (by decide +kernel)) rfl
theorem dX12_best_170 : decode cX12_best 170 = .ok (.goto (-79), 3) := dq_167 (a := 255) (b := 177) (fd_r fcX12_best (by decide +kernel)) rfl
theorem dX12_best_173 : decode cX12_best 173 = .ok (.iload_n 1, 1) := dq_27 (fd_r fcX12_best (by decide +kernel))
theorem dX12_best_174 : decode cX12_best 174 = .ok (.ifCond .ne 7, 3) := dq_154 (a := 0) (b := 7) (fd_r fcX12_best (by decide +kernel)) rfl
theorem dX12_best_177 : decode cX12_best 177 = .ok (.iload_n 3, 1) := dq_29 (fd_r fcX12_best (by decide +kernel))
theorem dX12_best_178 : decode cX12_best 178 = .ok (.goto 4, 3) := dq_167 (a := 0) (b := 4) (fd_r fcX12_best (by decide +kernel)) rfl
theorem dX12_best_181 : decode cX12_best 181 = .ok (.iload_n 2, 1) := dq_28 (fd_r fcX12_best (by decide +kernel))
theorem dX12_best_182 : decode cX12_best 182 = .ok (.ireturn, 1) := dq_172 (fd_r fcX12_best (by decide +kernel))
theorem dX12_see_0 : decode cX12_see 0 = .ok (.aload_n 0, 1) := dq_42 (fd_r fcX12_see (by decide +kernel))
theorem dX12_see_1 : decode cX12_see 1 = .ok (.getfield 13, 3) := dq_180 (a := 0) (b := 13) (fd_r fcX12_see (by decide +kernel)) rfl
theorem dX12_see_4 : decode cX12_see 4 = .ok (.istore_n 1, 1) := dq_60 (fd_r fcX12_see (by decide +kernel))
theorem dX12_see_5 : decode cX12_see 5 = .ok (.aload_n 0, 1) := dq_42 (fd_r fcX12_see (by decide +kernel))
theorem dX12_see_6 : decode cX12_see 6 = .ok (.iconst 0, 1) := dq_3 (fd_r fcX12_see (by decide +kernel))
theorem dX12_see_7 : decode cX12_see 7 = .ok (.putfield 13, 3) := dq_181 (a := 0) (b := 13) (fd_r fcX12_see (by decide +kernel)) rfl
theorem dX12_see_10 : decode cX12_see 10 = .ok (.aload_n 0, 1) := dq_42 (fd_r fcX12_see (by decide +kernel))
theorem dX12_see_11 : decode cX12_see 11 = .ok (.getfield 146, 3) := dq_180 (a := 0) (b := 146) (fd_r fcX12_see (by decide +kernel)) rfl
theorem dX12_see_14 : decode cX12_see 14 = .ok (.ifCond .eq 23, 3) := dq_153 (a := 0) (b := 23) (fd_r fcX12_see (by decide +kernel)) rfl
theorem dX12_see_17 : decode cX12_see 17 = .ok (.iload_n 1, 1) := dq_27 (fd_r fcX12_see (by decide +kernel))
theorem dX12_see_18 : decode cX12_see 18 = .ok (.ifCond .le 19, 3) := dq_158 (a := 0) (b := 19) (fd_r fcX12_see (by decide +kernel)) rfl
theorem dX12_see_21 : decode cX12_see 21 = .ok (.iload_n 1, 1) := dq_27 (fd_r fcX12_see (by decide +kernel))
theorem dX12_see_22 : decode cX12_see 22 = .ok (.iconst 3, 1) := dq_6 (fd_r fcX12_see (by decide +kernel))
theorem dX12_see_23 : decode cX12_see 23 = .ok (.irem, 1) := dq_112 (fd_r fcX12_see (by decide +kernel))
theorem dX12_see_24 : decode cX12_see 24 = .ok (.ifCond .ne 13, 3) := dq_154 (a := 0) (b := 13) (fd_r fcX12_see (by decide +kernel)) rfl
theorem dX12_see_27 : decode cX12_see 27 = .ok (.iload_n 1, 1) := dq_27 (fd_r fcX12_see (by decide +kernel))
theorem dX12_see_28 : decode cX12_see 28 = .ok (.bipush 48, 2) := dq_16 (a := 48) (fd_r fcX12_see (by decide +kernel)) rfl
theorem dX12_see_30 : decode cX12_see 30 = .ok (.if_icmp .gt 7, 3) := dq_163 (a := 0) (b := 7) (fd_r fcX12_see (by decide +kernel)) rfl
theorem dX12_see_33 : decode cX12_see 33 = .ok (.iconst 1, 1) := dq_4 (fd_r fcX12_see (by decide +kernel))
theorem dX12_see_34 : decode cX12_see 34 = .ok (.goto 4, 3) := dq_167 (a := 0) (b := 4) (fd_r fcX12_see (by decide +kernel)) rfl
theorem dX12_see_37 : decode cX12_see 37 = .ok (.iconst 0, 1) := dq_3 (fd_r fcX12_see (by decide +kernel))
theorem dX12_see_38 : decode cX12_see 38 = .ok (.istore_n 2, 1) := dq_61 (fd_r fcX12_see (by decide +kernel))
theorem dX12_see_39 : decode cX12_see 39 = .ok (.iconst 0, 1) := dq_3 (fd_r fcX12_see (by decide +kernel))
theorem dX12_see_40 : decode cX12_see 40 = .ok (.istore_n 3, 1) := dq_62 (fd_r fcX12_see (by decide +kernel))
theorem dX12_see_41 : decode cX12_see 41 = .ok (.iload_n 3, 1) := dq_29 (fd_r fcX12_see (by decide +kernel))
theorem dX12_see_42 : decode cX12_see 42 = .ok (.iload_n 1, 1) := dq_27 (fd_r fcX12_see (by decide +kernel))
theorem dX12_see_43 : decode cX12_see 43 = .ok (.if_icmp .ge 75, 3) := dq_162 (a := 0) (b := 75) (fd_r fcX12_see (by decide +kernel)) rfl
theorem dX12_see_46 : decode cX12_see 46 = .ok (.iload_n 2, 1) := dq_28 (fd_r fcX12_see (by decide +kernel))
theorem dX12_see_47 : decode cX12_see 47 = .ok (.ifCond .eq 71, 3) := dq_153 (a := 0) (b := 71) (fd_r fcX12_see (by decide +kernel)) rfl
theorem dX12_see_50 : decode cX12_see 50 = .ok (.aload_n 0, 1) := dq_42 (fd_r fcX12_see (by decide +kernel))
theorem dX12_see_51 : decode cX12_see 51 = .ok (.getfield 7, 3) := dq_180 (a := 0) (b := 7) (fd_r fcX12_see (by decide +kernel)) rfl
theorem dX12_see_54 : decode cX12_see 54 = .ok (.iload_n 3, 1) := dq_29 (fd_r fcX12_see (by decide +kernel))
theorem dX12_see_55 : decode cX12_see 55 = .ok (.iaload, 1) := dq_46 (fd_r fcX12_see (by decide +kernel))
theorem dX12_see_56 : decode cX12_see 56 = .ok (.bipush 8, 2) := dq_16 (a := 8) (fd_r fcX12_see (by decide +kernel)) rfl
theorem dX12_see_58 : decode cX12_see 58 = .ok (.ishl, 1) := dq_120 (fd_r fcX12_see (by decide +kernel))
theorem dX12_see_59 : decode cX12_see 59 = .ok (.aload_n 0, 1) := dq_42 (fd_r fcX12_see (by decide +kernel))
theorem dX12_see_60 : decode cX12_see 60 = .ok (.getfield 7, 3) := dq_180 (a := 0) (b := 7) (fd_r fcX12_see (by decide +kernel)) rfl
theorem dX12_see_63 : decode cX12_see 63 = .ok (.iload_n 3, 1) := dq_29 (fd_r fcX12_see (by decide +kernel))
theorem dX12_see_64 : decode cX12_see 64 = .ok (.iconst 1, 1) := dq_4 (fd_r fcX12_see (by decide +kernel))
theorem dX12_see_65 : decode cX12_see 65 = .ok (.iadd, 1) := dq_96 (fd_r fcX12_see (by decide +kernel))
theorem dX12_see_66 : decode cX12_see 66 = .ok (.iaload, 1) := dq_46 (fd_r fcX12_see (by decide +kernel))
theorem dX12_see_67 : decode cX12_see 67 = .ok (.ior, 1) := dq_128 (fd_r fcX12_see (by decide +kernel))
theorem dX12_see_68 : decode cX12_see 68 = .ok (.aload_n 0, 1) := dq_42 (fd_r fcX12_see (by decide +kernel))
theorem dX12_see_69 : decode cX12_see 69 = .ok (.getfield 170, 3) := dq_180 (a := 0) (b := 170) (fd_r fcX12_see (by decide +kernel)) rfl
theorem dX12_see_72 : decode cX12_see 72 = .ok (.if_icmp .ge 38, 3) := dq_162 (a := 0) (b := 38) (fd_r fcX12_see (by decide +kernel)) rfl
theorem dX12_see_75 : decode cX12_see 75 = .ok (.aload_n 0, 1) := dq_42 (fd_r fcX12_see (by decide +kernel))
theorem dX12_see_76 : decode cX12_see 76 = .ok (.getfield 7, 3) := dq_180 (a := 0) (b := 7) (fd_r fcX12_see (by decide +kernel)) rfl
theorem dX12_see_79 : decode cX12_see 79 = .ok (.iload_n 3, 1) := dq_29 (fd_r fcX12_see (by decide +kernel))
theorem dX12_see_80 : decode cX12_see 80 = .ok (.iconst 2, 1) := dq_5 (fd_r fcX12_see (by decide +kernel))
theorem dX12_see_81 : decode cX12_see 81 = .ok (.iadd, 1) := dq_96 (fd_r fcX12_see (by decide +kernel))
theorem dX12_see_82 : decode cX12_see 82 = .ok (.iaload, 1) := dq_46 (fd_r fcX12_see (by decide +kernel))
theorem dX12_see_83 : decode cX12_see 83 = .ok (.sipush 255, 3) := dq_17 (a := 0) (b := 255) (fd_r fcX12_see (by decide +kernel)) rfl
theorem dX12_see_86 : decode cX12_see 86 = .ok (.if_icmp .eq 20, 3) := dq_159 (a := 0) (b := 20) (fd_r fcX12_see (by decide +kernel)) rfl
theorem dX12_see_89 : decode cX12_see 89 = .ok (.aload_n 0, 1) := dq_42 (fd_r fcX12_see (by decide +kernel))
theorem dX12_see_90 : decode cX12_see 90 = .ok (.getfield 7, 3) := dq_180 (a := 0) (b := 7) (fd_r fcX12_see (by decide +kernel)) rfl
theorem dX12_see_93 : decode cX12_see 93 = .ok (.iload_n 3, 1) := dq_29 (fd_r fcX12_see (by decide +kernel))
theorem dX12_see_94 : decode cX12_see 94 = .ok (.iconst 2, 1) := dq_5 (fd_r fcX12_see (by decide +kernel))
theorem dX12_see_95 : decode cX12_see 95 = .ok (.iadd, 1) := dq_96 (fd_r fcX12_see (by decide +kernel))
theorem dX12_see_96 : decode cX12_see 96 = .ok (.iaload, 1) := dq_46 (fd_r fcX12_see (by decide +kernel))
theorem dX12_see_97 : decode cX12_see 97 = .ok (.aload_n 0, 1) := dq_42 (fd_r fcX12_see (by decide +kernel))
theorem dX12_see_98 : decode cX12_see 98 = .ok (.getfield 173, 3) := dq_180 (a := 0) (b := 173) (fd_r fcX12_see (by decide +kernel)) rfl
theorem dX12_see_101 : decode cX12_see 101 = .ok (.iconst 0, 1) := dq_3 (fd_r fcX12_see (by decide +kernel))
theorem dX12_see_102 : decode cX12_see 102 = .ok (.iaload, 1) := dq_46 (fd_r fcX12_see (by decide +kernel))
theorem dX12_see_103 : decode cX12_see 103 = .ok (.if_icmp .ge 7, 3) := dq_162 (a := 0) (b := 7) (fd_r fcX12_see (by decide +kernel)) rfl
theorem dX12_see_106 : decode cX12_see 106 = .ok (.iconst 1, 1) := dq_4 (fd_r fcX12_see (by decide +kernel))
theorem dX12_see_107 : decode cX12_see 107 = .ok (.goto 4, 3) := dq_167 (a := 0) (b := 4) (fd_r fcX12_see (by decide +kernel)) rfl
theorem dX12_see_110 : decode cX12_see 110 = .ok (.iconst 0, 1) := dq_3 (fd_r fcX12_see (by decide +kernel))
theorem dX12_see_111 : decode cX12_see 111 = .ok (.istore_n 2, 1) := dq_61 (fd_r fcX12_see (by decide +kernel))
theorem dX12_see_112 : decode cX12_see 112 = .ok (.iinc 3 3, 3) := dq_132 (a := 3) (b := 3) (fd_r fcX12_see (by decide +kernel)) rfl
theorem dX12_see_115 : decode cX12_see 115 = .ok (.goto (-74), 3) := dq_167 (a := 255) (b := 182) (fd_r fcX12_see (by decide +kernel)) rfl
theorem dX12_see_118 : decode cX12_see 118 = .ok (.iload_n 2, 1) := dq_28 (fd_r fcX12_see (by decide +kernel))
theorem dX12_see_119 : decode cX12_see 119 = .ok (.ifCond .ne 9, 3) := dq_154 (a := 0) (b := 9) (fd_r fcX12_see (by decide +kernel)) rfl
theorem dX12_see_122 : decode cX12_see 122 = .ok (.aload_n 0, 1) := dq_42 (fd_r fcX12_see (by decide +kernel))
theorem dX12_see_123 : decode cX12_see 123 = .ok (.iconst 5, 1) := dq_8 (fd_r fcX12_see (by decide +kernel))
theorem dX12_see_124 : decode cX12_see 124 = .ok (.invokevirtual 312, 3) := dq_182 (a := 1) (b := 56) (fd_r fcX12_see (by decide +kernel)) rfl
theorem dX12_see_127 : decode cX12_see 127 = .ok (.ireturn, 1) := dq_172 (fd_r fcX12_see (by decide +kernel))
theorem dX12_see_128 : decode cX12_see 128 = .ok (.aload_n 0, 1) := dq_42 (fd_r fcX12_see (by decide +kernel))
theorem dX12_see_129 : decode cX12_see 129 = .ok (.iload_n 1, 1) := dq_27 (fd_r fcX12_see (by decide +kernel))
theorem dX12_see_130 : decode cX12_see 130 = .ok (.iconst 3, 1) := dq_6 (fd_r fcX12_see (by decide +kernel))
theorem dX12_see_131 : decode cX12_see 131 = .ok (.idiv, 1) := dq_108 (fd_r fcX12_see (by decide +kernel))
theorem dX12_see_132 : decode cX12_see 132 = .ok (.putfield 291, 3) := dq_181 (a := 1) (b := 35) (fd_r fcX12_see (by decide +kernel)) rfl
theorem dX12_see_135 : decode cX12_see 135 = .ok (.iconst 0, 1) := dq_3 (fd_r fcX12_see (by decide +kernel))
theorem dX12_see_136 : decode cX12_see 136 = .ok (.istore_n 3, 1) := dq_62 (fd_r fcX12_see (by decide +kernel))
theorem dX12_see_137 : decode cX12_see 137 = .ok (.iload_n 3, 1) := dq_29 (fd_r fcX12_see (by decide +kernel))
theorem dX12_see_138 : decode cX12_see 138 = .ok (.aload_n 0, 1) := dq_42 (fd_r fcX12_see (by decide +kernel))
theorem dX12_see_139 : decode cX12_see 139 = .ok (.getfield 291, 3) := dq_180 (a := 1) (b := 35) (fd_r fcX12_see (by decide +kernel)) rfl
theorem dX12_see_142 : decode cX12_see 142 = .ok (.if_icmp .ge 73, 3) := dq_162 (a := 0) (b := 73) (fd_r fcX12_see (by decide +kernel)) rfl
theorem dX12_see_145 : decode cX12_see 145 = .ok (.aload_n 0, 1) := dq_42 (fd_r fcX12_see (by decide +kernel))
theorem dX12_see_146 : decode cX12_see 146 = .ok (.getfield 294, 3) := dq_180 (a := 1) (b := 38) (fd_r fcX12_see (by decide +kernel)) rfl
theorem dX12_see_149 : decode cX12_see 149 = .ok (.iload_n 3, 1) := dq_29 (fd_r fcX12_see (by decide +kernel))
theorem dX12_see_150 : decode cX12_see 150 = .ok (.aload_n 0, 1) := dq_42 (fd_r fcX12_see (by decide +kernel))
theorem dX12_see_151 : decode cX12_see 151 = .ok (.getfield 7, 3) := dq_180 (a := 0) (b := 7) (fd_r fcX12_see (by decide +kernel)) rfl
theorem dX12_see_154 : decode cX12_see 154 = .ok (.iconst 3, 1) := dq_6 (fd_r fcX12_see (by decide +kernel))
theorem dX12_see_155 : decode cX12_see 155 = .ok (.iload_n 3, 1) := dq_29 (fd_r fcX12_see (by decide +kernel))
theorem dX12_see_156 : decode cX12_see 156 = .ok (.imul, 1) := dq_104 (fd_r fcX12_see (by decide +kernel))
theorem dX12_see_157 : decode cX12_see 157 = .ok (.iaload, 1) := dq_46 (fd_r fcX12_see (by decide +kernel))
theorem dX12_see_158 : decode cX12_see 158 = .ok (.bipush 8, 2) := dq_16 (a := 8) (fd_r fcX12_see (by decide +kernel)) rfl
theorem dX12_see_160 : decode cX12_see 160 = .ok (.ishl, 1) := dq_120 (fd_r fcX12_see (by decide +kernel))
theorem dX12_see_161 : decode cX12_see 161 = .ok (.aload_n 0, 1) := dq_42 (fd_r fcX12_see (by decide +kernel))
theorem dX12_see_162 : decode cX12_see 162 = .ok (.getfield 7, 3) := dq_180 (a := 0) (b := 7) (fd_r fcX12_see (by decide +kernel)) rfl
theorem dX12_see_165 : decode cX12_see 165 = .ok (.iconst 3, 1) := dq_6 (fd_r fcX12_see (by decide +kernel))
theorem dX12_see_166 : decode cX12_see 166 = .ok (.iload_n 3, 1) := dq_29 (fd_r fcX12_see (by decide +kernel))
theorem dX12_see_167 : decode cX12_see 167 = .ok (.imul, 1) := dq_104 (fd_r fcX12_see (by decide +kernel))
theorem dX12_see_168 : decode cX12_see 168 = .ok (.iconst 1, 1) := dq_4 (fd_r fcX12_see (by decide +kernel))
theorem dX12_see_169 : decode cX12_see 169 = .ok (.iadd, 1) := dq_96 (fd_r fcX12_see (by decide +kernel))
theorem dX12_see_170 : decode cX12_see 170 = .ok (.iaload, 1) := dq_46 (fd_r fcX12_see (by decide +kernel))
theorem dX12_see_171 : decode cX12_see 171 = .ok (.ior, 1) := dq_128 (fd_r fcX12_see (by decide +kernel))
theorem dX12_see_172 : decode cX12_see 172 = .ok (.iastore, 1) := dq_79 (fd_r fcX12_see (by decide +kernel))
theorem dX12_see_173 : decode cX12_see 173 = .ok (.aload_n 0, 1) := dq_42 (fd_r fcX12_see (by decide +kernel))
theorem dX12_see_174 : decode cX12_see 174 = .ok (.getfield 297, 3) := dq_180 (a := 1) (b := 41) (fd_r fcX12_see (by decide +kernel)) rfl
theorem dX12_see_177 : decode cX12_see 177 = .ok (.iload_n 3, 1) := dq_29 (fd_r fcX12_see (by decide +kernel))
theorem dX12_see_178 : decode cX12_see 178 = .ok (.aload_n 0, 1) := dq_42 (fd_r fcX12_see (by decide +kernel))
theorem dX12_see_179 : decode cX12_see 179 = .ok (.getfield 7, 3) := dq_180 (a := 0) (b := 7) (fd_r fcX12_see (by decide +kernel)) rfl
theorem dX12_see_182 : decode cX12_see 182 = .ok (.iconst 3, 1) := dq_6 (fd_r fcX12_see (by decide +kernel))
theorem dX12_see_183 : decode cX12_see 183 = .ok (.iload_n 3, 1) := dq_29 (fd_r fcX12_see (by decide +kernel))
theorem dX12_see_184 : decode cX12_see 184 = .ok (.imul, 1) := dq_104 (fd_r fcX12_see (by decide +kernel))
theorem dX12_see_185 : decode cX12_see 185 = .ok (.iconst 2, 1) := dq_5 (fd_r fcX12_see (by decide +kernel))
theorem dX12_see_186 : decode cX12_see 186 = .ok (.iadd, 1) := dq_96 (fd_r fcX12_see (by decide +kernel))
theorem dX12_see_187 : decode cX12_see 187 = .ok (.iaload, 1) := dq_46 (fd_r fcX12_see (by decide +kernel))
theorem dX12_see_188 : decode cX12_see 188 = .ok (.sipush 255, 3) := dq_17 (a := 0) (b := 255) (fd_r fcX12_see (by decide +kernel)) rfl
theorem dX12_see_191 : decode cX12_see 191 = .ok (.if_icmp .ne 7, 3) := dq_160 (a := 0) (b := 7) (fd_r fcX12_see (by decide +kernel)) rfl
theorem dX12_see_194 : decode cX12_see 194 = .ok (.iconst (-1), 1) := dq_2 (fd_r fcX12_see (by decide +kernel))
theorem dX12_see_195 : decode cX12_see 195 = .ok (.goto 13, 3) := dq_167 (a := 0) (b := 13) (fd_r fcX12_see (by decide +kernel)) rfl
theorem dX12_see_198 : decode cX12_see 198 = .ok (.aload_n 0, 1) := dq_42 (fd_r fcX12_see (by decide +kernel))
theorem dX12_see_199 : decode cX12_see 199 = .ok (.getfield 7, 3) := dq_180 (a := 0) (b := 7) (fd_r fcX12_see (by decide +kernel)) rfl
theorem dX12_see_202 : decode cX12_see 202 = .ok (.iconst 3, 1) := dq_6 (fd_r fcX12_see (by decide +kernel))
theorem dX12_see_203 : decode cX12_see 203 = .ok (.iload_n 3, 1) := dq_29 (fd_r fcX12_see (by decide +kernel))
theorem dX12_see_204 : decode cX12_see 204 = .ok (.imul, 1) := dq_104 (fd_r fcX12_see (by decide +kernel))
theorem dX12_see_205 : decode cX12_see 205 = .ok (.iconst 2, 1) := dq_5 (fd_r fcX12_see (by decide +kernel))
theorem dX12_see_206 : decode cX12_see 206 = .ok (.iadd, 1) := dq_96 (fd_r fcX12_see (by decide +kernel))
theorem dX12_see_207 : decode cX12_see 207 = .ok (.iaload, 1) := dq_46 (fd_r fcX12_see (by decide +kernel))
theorem dX12_see_208 : decode cX12_see 208 = .ok (.iastore, 1) := dq_79 (fd_r fcX12_see (by decide +kernel))
theorem dX12_see_209 : decode cX12_see 209 = .ok (.iinc 3 1, 3) := dq_132 (a := 3) (b := 1) (fd_r fcX12_see (by decide +kernel)) rfl
end
end
