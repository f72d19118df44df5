theorem dX12_isMoreOf_176 : decode cX12_isMoreOf 176 = .ok (.iadd, 1) := by decide +kernel
theorem dX12_isMoreOf_177 : decode cX12_isMoreOf 177 = .ok (.istore_n 2, 1) := by decide +kernel
theorem dX12_isMoreOf_178 : decode cX12_isMoreOf 178 = .ok (.goto (-176), 3) := by decide +kernel
theorem dX12_isMoreOf_181 : decode cX12_isMoreOf 181 = .ok (.iconst 0, 1) := by decide +kernel
theorem dX12_isMoreOf_182 : decode cX12_isMoreOf 182 = .ok (.ireturn, 1) := by decide +kernel
theorem dX12_row_0 : decode cX12_row 0 = .ok (.aload_n 0, 1) := by decide +kernel
theorem dX12_row_1 : decode cX12_row 1 = .ok (.aload_n 0, 1) := by decide +kernel
theorem dX12_row_2 : decode cX12_row 2 = .ok (.getfield 13, 3) := by decide +kernel
theorem dX12_row_5 : decode cX12_row 5 = .ok (.putfield 17, 3) := by decide +kernel
theorem dX12_row_8 : decode cX12_row 8 = .ok (.aload_n 0, 1) := by decide +kernel
theorem dX12_row_9 : decode cX12_row 9 = .ok (.iconst 0, 1) := by decide +kernel
theorem dX12_row_10 : decode cX12_row 10 = .ok (.putfield 13, 3) := by decide +kernel
theorem dX12_row_13 : decode cX12_row 13 = .ok (.aload_n 0, 1) := by decide +kernel
theorem dX12_row_14 : decode cX12_row 14 = .ok (.iconst 0, 1) := by decide +kernel
theorem dX12_row_15 : decode cX12_row 15 = .ok (.putfield 26, 3) := by decide +kernel
theorem dX12_row_18 : decode cX12_row 18 = .ok (.aload_n 0, 1) := by decide +kernel
theorem dX12_row_19 : decode cX12_row 19 = .ok (.iconst 0, 1) := by decide +kernel
theorem dX12_row_20 : decode cX12_row 20 = .ok (.putfield 36, 3) := by decide +kernel
theorem dX12_row_23 : decode cX12_row 23 = .ok (.aload_n 0, 1) := by decide +kernel
theorem dX12_row_24 : decode cX12_row 24 = .ok (.iconst (-1), 1) := by decide +kernel
theorem dX12_row_25 : decode cX12_row 25 = .ok (.putfield 39, 3) := by decide +kernel
theorem dX12_row_28 : decode cX12_row 28 = .ok (.iconst 0, 1) := by decide +kernel
theorem dX12_row_29 : decode cX12_row 29 = .ok (.istore_n 1, 1) := by decide +kernel
theorem dX12_row_30 : decode cX12_row 30 = .ok (.aload_n 0, 1) := by decide +kernel
theorem dX12_row_31 : decode cX12_row 31 = .ok (.getfield 146, 3) := by decide +kernel
theorem dX12_row_34 : decode cX12_row 34 = .ok (.ifCond .ne 9, 3) := by decide +kernel
theorem dX12_row_37 : decode cX12_row 37 = .ok (.aload_n 0, 1) := by decide +kernel
theorem dX12_row_38 : decode cX12_row 38 = .ok (.iconst 1, 1) := by decide +kernel
theorem dX12_row_39 : decode cX12_row 39 = .ok (.iconst 0, 1) := by decide +kernel
theorem dX12_row_40 : decode cX12_row 40 = .ok (.invokevirtual 320, 3) := by decide +kernel
theorem dX12_row_43 : decode cX12_row 43 = .ok (.aload_n 0, 1) := by decide +kernel
theorem dX12_row_44 : decode cX12_row 44 = .ok (.getfield 36, 3) := by decide +kernel
theorem dX12_row_47 : decode cX12_row 47 = .ok (.ifCond .ne 7, 3) := by decide +kernel
theorem dX12_row_50 : decode cX12_row 50 = .ok (.aload_n 0, 1) := by decide +kernel
theorem dX12_row_51 : decode cX12_row 51 = .ok (.invokevirtual 337, 3) := by decide +kernel
theorem dX12_row_54 : decode cX12_row 54 = .ok (.iconst 0, 1) := by decide +kernel
theorem dX12_row_55 : decode cX12_row 55 = .ok (.istore_n 2, 1) := by decide +kernel
theorem dX12_row_56 : decode cX12_row 56 = .ok (.iload_n 2, 1) := by decide +kernel
theorem dX12_row_57 : decode cX12_row 57 = .ok (.aload_n 0, 1) := by decide +kernel
theorem dX12_row_58 : decode cX12_row 58 = .ok (.invokevirtual 459, 3) := by decide +kernel
theorem dX12_row_61 : decode cX12_row 61 = .ok (.if_icmp .ge 67, 3) := by decide +kernel
theorem dX12_row_64 : decode cX12_row 64 = .ok (.aload_n 0, 1) := by decide +kernel
theorem dX12_row_65 : decode cX12_row 65 = .ok (.getfield 36, 3) := by decide +kernel
theorem dX12_row_68 : decode cX12_row 68 = .ok (.ifCond .ne 60, 3) := by decide +kernel
theorem dX12_row_71 : decode cX12_row 71 = .ok (.iload_n 2, 1) := by decide +kernel
theorem dX12_row_72 : decode cX12_row 72 = .ok (.ifCond .le 7, 3) := by decide +kernel
theorem dX12_row_75 : decode cX12_row 75 = .ok (.aload_n 0, 1) := by decide +kernel
theorem dX12_row_76 : decode cX12_row 76 = .ok (.invokevirtual 331, 3) := by decide +kernel
theorem dX12_row_79 : decode cX12_row 79 = .ok (.iload_n 2, 1) := by decide +kernel
theorem dX12_row_80 : decode cX12_row 80 = .ok (.ifCond .le 9, 3) := by decide +kernel
theorem dX12_row_83 : decode cX12_row 83 = .ok (.aload_n 0, 1) := by decide +kernel
theorem dX12_row_84 : decode cX12_row 84 = .ok (.bipush 44, 2) := by decide +kernel
theorem dX12_row_86 : decode cX12_row 86 = .ok (.invokevirtual 413, 3) := by decide +kernel
theorem dX12_row_89 : decode cX12_row 89 = .ok (.aload_n 0, 1) := by decide +kernel
theorem dX12_row_90 : decode cX12_row 90 = .ok (.getfield 36, 3) := by decide +kernel
theorem dX12_row_93 : decode cX12_row 93 = .ok (.ifCond .ne 29, 3) := by decide +kernel
theorem dX12_row_96 : decode cX12_row 96 = .ok (.iload_n 1, 1) := by decide +kernel
theorem dX12_row_97 : decode cX12_row 97 = .ok (.aload_n 0, 1) := by decide +kernel
theorem dX12_row_98 : decode cX12_row 98 = .ok (.iload_n 2, 1) := by decide +kernel
theorem dX12_row_99 : decode cX12_row 99 = .ok (.invokevirtual 463, 3) := by decide +kernel
theorem dX12_row_102 : decode cX12_row 102 = .ok (.imul, 1) := by decide +kernel
theorem dX12_row_103 : decode cX12_row 103 = .ok (.aload_n 0, 1) := by decide +kernel
theorem dX12_row_104 : decode cX12_row 104 = .ok (.aload_n 0, 1) := by decide +kernel
theorem dX12_row_105 : decode cX12_row 105 = .ok (.getfield 84, 3) := by decide +kernel
theorem dX12_row_108 : decode cX12_row 108 = .ok (.iconst 4, 1) := by decide +kernel
theorem dX12_row_109 : decode cX12_row 109 = .ok (.aload_n 0, 1) := by decide +kernel
theorem dX12_row_110 : decode cX12_row 110 = .ok (.getfield 51, 3) := by decide +kernel
theorem dX12_row_113 : decode cX12_row 113 = .ok (.imul, 1) := by decide +kernel
theorem dX12_row_114 : decode cX12_row 114 = .ok (.iload_n 2, 1) := by decide +kernel
theorem dX12_row_115 : decode cX12_row 115 = .ok (.iadd, 1) := by decide +kernel
theorem dX12_row_116 : decode cX12_row 116 = .ok (.iaload, 1) := by decide +kernel
theorem dX12_row_117 : decode cX12_row 117 = .ok (.invokevirtual 525, 3) := by decide +kernel
theorem dX12_row_120 : decode cX12_row 120 = .ok (.iadd, 1) := by decide +kernel
theorem dX12_row_121 : decode cX12_row 121 = .ok (.istore_n 1, 1) := by decide +kernel
theorem dX12_row_122 : decode cX12_row 122 = .ok (.iinc 2 1, 3) := by decide +kernel
theorem dX12_row_125 : decode cX12_row 125 = .ok (.goto (-69), 3) := by decide +kernel
theorem dX12_row_128 : decode cX12_row 128 = .ok (.aload_n 0, 1) := by decide +kernel
theorem dX12_row_129 : decode cX12_row 129 = .ok (.getfield 36, 3) := by decide +kernel
theorem dX12_row_132 : decode cX12_row 132 = .ok (.ifCond .ne 7, 3) := by decide +kernel
theorem dX12_row_135 : decode cX12_row 135 = .ok (.aload_n 0, 1) := by decide +kernel
theorem dX12_row_136 : decode cX12_row 136 = .ok (.invokevirtual 331, 3) := by decide +kernel
theorem dX12_row_139 : decode cX12_row 139 = .ok (.aload_n 0, 1) := by decide +kernel
theorem dX12_row_140 : decode cX12_row 140 = .ok (.getfield 36, 3) := by decide +kernel
theorem dX12_row_143 : decode cX12_row 143 = .ok (.ifCond .ne 19, 3) := by decide +kernel
theorem dX12_row_146 : decode cX12_row 146 = .ok (.aload_n 0, 1) := by decide +kernel
theorem dX12_row_147 : decode cX12_row 147 = .ok (.getfield 20, 3) := by decide +kernel
theorem dX12_row_150 : decode cX12_row 150 = .ok (.ifCond .eq 12, 3) := by decide +kernel
theorem dX12_row_153 : decode cX12_row 153 = .ok (.aload_n 0, 1) := by decide +kernel
theorem dX12_row_154 : decode cX12_row 154 = .ok (.iconst 1, 1) := by decide +kernel
theorem dX12_row_155 : decode cX12_row 155 = .ok (.aload_n 0, 1) := by decide +kernel
theorem dX12_row_156 : decode cX12_row 156 = .ok (.getfield 23, 3) := by decide +kernel
theorem dX12_row_159 : decode cX12_row 159 = .ok (.invokevirtual 320, 3) := by decide +kernel
theorem dX12_row_162 : decode cX12_row 162 = .ok (.aload_n 0, 1) := by decide +kernel
theorem dX12_row_163 : decode cX12_row 163 = .ok (.aload_n 0, 1) := by decide +kernel
theorem dX12_row_164 : decode cX12_row 164 = .ok (.getfield 36, 3) := by decide +kernel
theorem dX12_row_167 : decode cX12_row 167 = .ok (.putfield 42, 3) := by decide +kernel
theorem dX12_row_170 : decode cX12_row 170 = .ok (.aload_n 0, 1) := by decide +kernel
theorem dX12_row_171 : decode cX12_row 171 = .ok (.aload_n 0, 1) := by decide +kernel
theorem dX12_row_172 : decode cX12_row 172 = .ok (.getfield 39, 3) := by decide +kernel
theorem dX12_row_175 : decode cX12_row 175 = .ok (.putfield 45, 3) := by decide +kernel
theorem dX12_row_178 : decode cX12_row 178 = .ok (.aload_n 0, 1) := by decide +kernel
theorem dX12_row_179 : decode cX12_row 179 = .ok (.getfield 36, 3) := by decide +kernel
theorem dX12_row_182 : decode cX12_row 182 = .ok (.ifCond .le 11, 3) := by decide +kernel
theorem dX12_row_185 : decode cX12_row 185 = .ok (.aload_n 0, 1) := by decide +kernel
theorem dX12_row_186 : decode cX12_row 186 = .ok (.iconst 1, 1) := by decide +kernel
theorem dX12_row_187 : decode cX12_row 187 = .ok (.invokevirtual 312, 3) := by decide +kernel
theorem dX12_row_190 : decode cX12_row 190 = .ok (.goto 4, 3) := by decide +kernel
theorem dX12_row_193 : decode cX12_row 193 = .ok (.iload_n 1, 1) := by decide +kernel
theorem dX12_row_194 : decode cX12_row 194 = .ok (.ireturn, 1) := by decide +kernel
theorem dX12_writes_0 : decode cX12_writes 0 = .ok (.aload_n 0, 1) := by decide +kernel
theorem dX12_writes_1 : decode cX12_writes 1 = .ok (.getfield 221, 3) := by decide +kernel
theorem dX12_writes_4 : decode cX12_writes 4 = .ok (.aload_n 0, 1) := by decide +kernel
theorem dX12_writes_5 : decode cX12_writes 5 = .ok (.getfield 224, 3) := by decide +kernel
theorem dX12_writes_8 : decode cX12_writes 8 = .ok (.iload_n 1, 1) := by decide +kernel
theorem dX12_writes_9 : decode cX12_writes 9 = .ok (.sipush 255, 3) := by decide +kernel
theorem dX12_writes_12 : decode cX12_writes 12 = .ok (.iand, 1) := by decide +kernel
theorem dX12_writes_13 : decode cX12_writes 13 = .ok (.iastore, 1) := by decide +kernel
theorem dX12_writes_14 : decode cX12_writes 14 = .ok (.aload_n 0, 1) := by decide +kernel
theorem dX12_writes_15 : decode cX12_writes 15 = .ok (.dup, 1) := by decide +kernel
theorem dX12_writes_16 : decode cX12_writes 16 = .ok (.getfield 224, 3) := by decide +kernel
theorem dX12_writes_19 : decode cX12_writes 19 = .ok (.iconst 1, 1) := by decide +kernel
theorem dX12_writes_20 : decode cX12_writes 20 = .ok (.iadd, 1) := by decide +kernel
theorem dX12_writes_21 : decode cX12_writes 21 = .ok (.putfield 224, 3) := by decide +kernel
theorem dX12_writes_24 : decode cX12_writes 24 = .ok (.return_, 1) := by decide +kernel
theorem dX12_writesName_0 : decode cX12_writesName 0 = .ok (.lload_n 1, 1) := by decide +kernel
theorem dX12_writesName_1 : decode cX12_writesName 1 = .ok (.invokestatic 487, 3) := by decide +kernel
theorem dX12_writesName_4 : decode cX12_writesName 4 = .ok (.iconst 1, 1) := by decide +kernel
theorem dX12_writesName_5 : decode cX12_writesName 5 = .ok (.isub, 1) := by decide +kernel
theorem dX12_writesName_6 : decode cX12_writesName 6 = .ok (.istore_n 3, 1) := by decide +kernel
theorem dX12_writesName_7 : decode cX12_writesName 7 = .ok (.iload_n 3, 1) := by decide +kernel
theorem dX12_writesName_8 : decode cX12_writesName 8 = .ok (.ifCond .lt 24, 3) := by decide +kernel
theorem dX12_writesName_11 : decode cX12_writesName 11 = .ok (.aload_n 0, 1) := by decide +kernel
theorem dX12_writesName_12 : decode cX12_writesName 12 = .ok (.lload_n 1, 1) := by decide +kernel
theorem dX12_writesName_13 : decode cX12_writesName 13 = .ok (.bipush 8, 2) := by decide +kernel
theorem dX12_writesName_15 : decode cX12_writesName 15 = .ok (.iload_n 3, 1) := by decide +kernel
theorem dX12_writesName_16 : decode cX12_writesName 16 = .ok (.imul, 1) := by decide +kernel
theorem dX12_writesName_17 : decode cX12_writesName 17 = .ok (.lshr, 1) := by decide +kernel
theorem dX12_writesName_18 : decode cX12_writesName 18 = .ok (.ldc2_w 490, 3) := by decide +kernel
theorem dX12_writesName_21 : decode cX12_writesName 21 = .ok (.land, 1) := by decide +kernel
theorem dX12_writesName_22 : decode cX12_writesName 22 = .ok (.l2i, 1) := by decide +kernel
theorem dX12_writesName_23 : decode cX12_writesName 23 = .ok (.invokevirtual 528, 3) := by decide +kernel
theorem dX12_writesName_26 : decode cX12_writesName 26 = .ok (.iinc 3 (-1), 3) := by decide +kernel
theorem dX12_writesName_29 : decode cX12_writesName 29 = .ok (.goto (-22), 3) := by decide +kernel
theorem dX12_writesName_32 : decode cX12_writesName 32 = .ok (.return_, 1) := by decide +kernel
theorem dX12_later_0 : decode cX12_later 0 = .ok (.aload_n 0, 1) := by decide +kernel
theorem dX12_later_1 : decode cX12_later 1 = .ok (.getfield 227, 3) := by decide +kernel
theorem dX12_later_4 : decode cX12_later 4 = .ok (.aload_n 0, 1) := by decide +kernel
theorem dX12_later_5 : decode cX12_later 5 = .ok (.getfield 233, 3) := by decide +kernel
theorem dX12_later_8 : decode cX12_later 8 = .ok (.iload_n 1, 1) := by decide +kernel
theorem dX12_later_9 : decode cX12_later 9 = .ok (.iastore, 1) := by decide +kernel
theorem dX12_later_10 : decode cX12_later 10 = .ok (.aload_n 0, 1) := by decide +kernel
theorem dX12_later_11 : decode cX12_later 11 = .ok (.getfield 230, 3) := by decide +kernel
theorem dX12_later_14 : decode cX12_later 14 = .ok (.aload_n 0, 1) := by decide +kernel
theorem dX12_later_15 : decode cX12_later 15 = .ok (.getfield 233, 3) := by decide +kernel
theorem dX12_later_18 : decode cX12_later 18 = .ok (.iload_n 2, 1) := by decide +kernel
theorem dX12_later_19 : decode cX12_later 19 = .ok (.iastore, 1) := by decide +kernel
theorem dX12_later_20 : decode cX12_later 20 = .ok (.aload_n 0, 1) := by decide +kernel
theorem dX12_later_21 : decode cX12_later 21 = .ok (.dup, 1) := by decide +kernel
theorem dX12_later_22 : decode cX12_later 22 = .ok (.getfield 233, 3) := by decide +kernel
theorem dX12_later_25 : decode cX12_later 25 = .ok (.iconst 1, 1) := by decide +kernel
theorem dX12_later_26 : decode cX12_later 26 = .ok (.iadd, 1) := by decide +kernel
theorem dX12_later_27 : decode cX12_later 27 = .ok (.putfield 233, 3) := by decide +kernel
theorem dX12_later_30 : decode cX12_later 30 = .ok (.return_, 1) := by decide +kernel
theorem dX12_conOf_0 : decode cX12_conOf 0 = .ok (.iconst 0, 1) := by decide +kernel
theorem dX12_conOf_1 : decode cX12_conOf 1 = .ok (.istore_n 3, 1) := by decide +kernel
theorem dX12_conOf_2 : decode cX12_conOf 2 = .ok (.iload_n 3, 1) := by decide +kernel
theorem dX12_conOf_3 : decode cX12_conOf 3 = .ok (.aload_n 0, 1) := by decide +kernel
theorem dX12_conOf_4 : decode cX12_conOf 4 = .ok (.getfield 63, 3) := by decide +kernel
theorem dX12_conOf_7 : decode cX12_conOf 7 = .ok (.aload_n 0, 1) := by decide +kernel
theorem dX12_conOf_8 : decode cX12_conOf 8 = .ok (.getfield 51, 3) := by decide +kernel
theorem dX12_conOf_11 : decode cX12_conOf 11 = .ok (.iaload, 1) := by decide +kernel
theorem dX12_conOf_12 : decode cX12_conOf 12 = .ok (.if_icmp .ge 64, 3) := by decide +kernel
theorem dX12_conOf_15 : decode cX12_conOf 15 = .ok (.bipush 24, 2) := by decide +kernel
theorem dX12_conOf_17 : decode cX12_conOf 17 = .ok (.aload_n 0, 1) := by decide +kernel
theorem dX12_conOf_18 : decode cX12_conOf 18 = .ok (.getfield 51, 3) := by decide +kernel
theorem dX12_conOf_21 : decode cX12_conOf 21 = .ok (.imul, 1) := by decide +kernel
theorem dX12_conOf_22 : decode cX12_conOf 22 = .ok (.iload_n 3, 1) := by decide +kernel
theorem dX12_conOf_23 : decode cX12_conOf 23 = .ok (.iadd, 1) := by decide +kernel
theorem dX12_conOf_24 : decode cX12_conOf 24 = .ok (.istore 4, 2) := by decide +kernel
theorem dX12_conOf_26 : decode cX12_conOf 26 = .ok (.aload_n 0, 1) := by decide +kernel
theorem dX12_conOf_27 : decode cX12_conOf 27 = .ok (.getfield 66, 3) := by decide +kernel
theorem dX12_conOf_30 : decode cX12_conOf 30 = .ok (.iload 4, 2) := by decide +kernel
theorem dX12_conOf_32 : decode cX12_conOf 32 = .ok (.iaload, 1) := by decide +kernel
theorem dX12_conOf_33 : decode cX12_conOf 33 = .ok (.iload_n 1, 1) := by decide +kernel
theorem dX12_conOf_34 : decode cX12_conOf 34 = .ok (.if_icmp .ne 36, 3) := by decide +kernel
theorem dX12_conOf_37 : decode cX12_conOf 37 = .ok (.iload_n 2, 1) := by decide +kernel
theorem dX12_conOf_38 : decode cX12_conOf 38 = .ok (.aload_n 0, 1) := by decide +kernel
theorem dX12_conOf_39 : decode cX12_conOf 39 = .ok (.getfield 75, 3) := by decide +kernel
theorem dX12_conOf_42 : decode cX12_conOf 42 = .ok (.iload 4, 2) := by decide +kernel
theorem dX12_conOf_44 : decode cX12_conOf 44 = .ok (.iaload, 1) := by decide +kernel
theorem dX12_conOf_45 : decode cX12_conOf 45 = .ok (.aload_n 0, 1) := by decide +kernel
theorem dX12_conOf_46 : decode cX12_conOf 46 = .ok (.getfield 75, 3) := by decide +kernel
theorem dX12_conOf_49 : decode cX12_conOf 49 = .ok (.iload 4, 2) := by decide +kernel
theorem dX12_conOf_51 : decode cX12_conOf 51 = .ok (.iaload, 1) := by decide +kernel
theorem dX12_conOf_52 : decode cX12_conOf 52 = .ok (.aload_n 0, 1) := by decide +kernel
theorem dX12_conOf_53 : decode cX12_conOf 53 = .ok (.getfield 78, 3) := by decide +kernel
theorem dX12_conOf_56 : decode cX12_conOf 56 = .ok (.iload 4, 2) := by decide +kernel
theorem dX12_conOf_58 : decode cX12_conOf 58 = .ok (.iaload, 1) := by decide +kernel
theorem dX12_conOf_59 : decode cX12_conOf 59 = .ok (.iadd, 1) := by decide +kernel
theorem dX12_conOf_60 : decode cX12_conOf 60 = .ok (.iconst 1, 1) := by decide +kernel
theorem dX12_conOf_61 : decode cX12_conOf 61 = .ok (.isub, 1) := by decide +kernel
theorem dX12_conOf_62 : decode cX12_conOf 62 = .ok (.invokestatic 362, 3) := by decide +kernel
theorem dX12_conOf_65 : decode cX12_conOf 65 = .ok (.ifCond .eq 5, 3) := by decide +kernel
theorem dX12_conOf_68 : decode cX12_conOf 68 = .ok (.iload_n 3, 1) := by decide +kernel
theorem dX12_conOf_69 : decode cX12_conOf 69 = .ok (.ireturn, 1) := by decide +kernel
theorem dX12_conOf_70 : decode cX12_conOf 70 = .ok (.iinc 3 1, 3) := by decide +kernel
theorem dX12_conOf_73 : decode cX12_conOf 73 = .ok (.goto (-71), 3) := by decide +kernel
theorem dX12_conOf_76 : decode cX12_conOf 76 = .ok (.iconst (-1), 1) := by decide +kernel
theorem dX12_conOf_77 : decode cX12_conOf 77 = .ok (.ireturn, 1) := by decide +kernel
theorem dX12_writesValue_0 : decode cX12_writesValue 0 = .ok (.iload_n 1, 1) := by decide +kernel
theorem dX12_writesValue_1 : decode cX12_writesValue 1 = .ok (.iconst 4, 1) := by decide +kernel
theorem dX12_writesValue_2 : decode cX12_writesValue 2 = .ok (.if_icmp .ne 32, 3) := by decide +kernel
theorem dX12_writesValue_5 : decode cX12_writesValue 5 = .ok (.iload_n 2, 1) := by decide +kernel
theorem dX12_writesValue_6 : decode cX12_writesValue 6 = .ok (.bipush 9, 2) := by decide +kernel
theorem dX12_writesValue_8 : decode cX12_writesValue 8 = .ok (.if_icmp .le 14, 3) := by decide +kernel
theorem dX12_writesValue_11 : decode cX12_writesValue 11 = .ok (.aload_n 0, 1) := by decide +kernel
theorem dX12_writesValue_12 : decode cX12_writesValue 12 = .ok (.bipush 48, 2) := by decide +kernel
theorem dX12_writesValue_14 : decode cX12_writesValue 14 = .ok (.iload_n 2, 1) := by decide +kernel
theorem dX12_writesValue_15 : decode cX12_writesValue 15 = .ok (.bipush 10, 2) := by decide +kernel
theorem dX12_writesValue_17 : decode cX12_writesValue 17 = .ok (.idiv, 1) := by decide +kernel
theorem dX12_writesValue_18 : decode cX12_writesValue 18 = .ok (.iadd, 1) := by decide +kernel
theorem dX12_writesValue_19 : decode cX12_writesValue 19 = .ok (.invokevirtual 528, 3) := by decide +kernel
theorem dX12_writesValue_22 : decode cX12_writesValue 22 = .ok (.aload_n 0, 1) := by decide +kernel
theorem dX12_writesValue_23 : decode cX12_writesValue 23 = .ok (.bipush 48, 2) := by decide +kernel
theorem dX12_writesValue_25 : decode cX12_writesValue 25 = .ok (.iload_n 2, 1) := by decide +kernel
theorem dX12_writesValue_26 : decode cX12_writesValue 26 = .ok (.bipush 10, 2) := by decide +kernel
theorem dX12_writesValue_28 : decode cX12_writesValue 28 = .ok (.irem, 1) := by decide +kernel
theorem dX12_writesValue_29 : decode cX12_writesValue 29 = .ok (.iadd, 1) := by decide +kernel
theorem dX12_writesValue_30 : decode cX12_writesValue 30 = .ok (.invokevirtual 528, 3) := by decide +kernel
theorem dX12_writesValue_33 : decode cX12_writesValue 33 = .ok (.return_, 1) := by decide +kernel
theorem dX12_writesValue_34 : decode cX12_writesValue 34 = .ok (.aload_n 0, 1) := by decide +kernel
theorem dX12_writesValue_35 : decode cX12_writesValue 35 = .ok (.iload_n 1, 1) := by decide +kernel
theorem dX12_writesValue_36 : decode cX12_writesValue 36 = .ok (.iload_n 2, 1) := by decide +kernel
theorem dX12_writesValue_37 : decode cX12_writesValue 37 = .ok (.invokevirtual 531, 3) := by decide +kernel
theorem dX12_writesValue_40 : decode cX12_writesValue 40 = .ok (.istore_n 3, 1) := by decide +kernel
theorem dX12_writesValue_41 : decode cX12_writesValue 41 = .ok (.bipush 24, 2) := by decide +kernel
theorem dX12_writesValue_43 : decode cX12_writesValue 43 = .ok (.aload_n 0, 1) := by decide +kernel
theorem dX12_writesValue_44 : decode cX12_writesValue 44 = .ok (.getfield 51, 3) := by decide +kernel
theorem dX12_writesValue_47 : decode cX12_writesValue 47 = .ok (.imul, 1) := by decide +kernel
theorem dX12_writesValue_48 : decode cX12_writesValue 48 = .ok (.iload_n 3, 1) := by decide +kernel
theorem dX12_writesValue_49 : decode cX12_writesValue 49 = .ok (.iadd, 1) := by decide +kernel
theorem dX12_writesValue_50 : decode cX12_writesValue 50 = .ok (.istore 4, 2) := by decide +kernel
theorem dX12_writesValue_52 : decode cX12_writesValue 52 = .ok (.aload_n 0, 1) := by decide +kernel
theorem dX12_writesValue_53 : decode cX12_writesValue 53 = .ok (.aload_n 0, 1) := by decide +kernel
theorem dX12_writesValue_54 : decode cX12_writesValue 54 = .ok (.getfield 118, 3) := by decide +kernel
theorem dX12_writesValue_57 : decode cX12_writesValue 57 = .ok (.iload 4, 2) := by decide +kernel
theorem dX12_writesValue_59 : decode cX12_writesValue 59 = .ok (.laload, 1) := by decide +kernel
theorem dX12_writesValue_60 : decode cX12_writesValue 60 = .ok (.invokevirtual 534, 3) := by decide +kernel
theorem dX12_writesValue_63 : decode cX12_writesValue 63 = .ok (.aload_n 0, 1) := by decide +kernel
theorem dX12_writesValue_64 : decode cX12_writesValue 64 = .ok (.getfield 69, 3) := by decide +kernel
theorem dX12_writesValue_67 : decode cX12_writesValue 67 = .ok (.iload 4, 2) := by decide +kernel
theorem dX12_writesValue_69 : decode cX12_writesValue 69 = .ok (.iaload, 1) := by decide +kernel
theorem dX12_writesValue_70 : decode cX12_writesValue 70 = .ok (.ifCond .ne 4, 3) := by decide +kernel
theorem dX12_writesValue_73 : decode cX12_writesValue 73 = .ok (.return_, 1) := by decide +kernel
theorem dX12_writesValue_74 : decode cX12_writesValue 74 = .ok (.aload_n 0, 1) := by decide +kernel
theorem dX12_writesValue_75 : decode cX12_writesValue 75 = .ok (.iconst 5, 1) := by decide +kernel
theorem dX12_writesValue_76 : decode cX12_writesValue 76 = .ok (.bipush 41, 2) := by decide +kernel
theorem dX12_writesValue_78 : decode cX12_writesValue 78 = .ok (.invokevirtual 538, 3) := by decide +kernel
theorem dX12_writesValue_81 : decode cX12_writesValue 81 = .ok (.aload_n 0, 1) := by decide +kernel
theorem dX12_writesValue_82 : decode cX12_writesValue 82 = .ok (.getfield 69, 3) := by decide +kernel
theorem dX12_writesValue_85 : decode cX12_writesValue 85 = .ok (.iload 4, 2) := by decide +kernel
theorem dX12_writesValue_87 : decode cX12_writesValue 87 = .ok (.iaload, 1) := by decide +kernel
theorem dX12_writesValue_88 : decode cX12_writesValue 88 = .ok (.iconst 1, 1) := by decide +kernel
theorem dX12_writesValue_89 : decode cX12_writesValue 89 = .ok (.isub, 1) := by decide +kernel
theorem dX12_writesValue_90 : decode cX12_writesValue 90 = .ok (.istore 5, 2) := by decide +kernel
theorem dX12_writesValue_92 : decode cX12_writesValue 92 = .ok (.iload 5, 2) := by decide +kernel
theorem dX12_writesValue_94 : decode cX12_writesValue 94 = .ok (.ifCond .lt 50, 3) := by decide +kernel
theorem dX12_writesValue_97 : decode cX12_writesValue 97 = .ok (.aload_n 0, 1) := by decide +kernel
theorem dX12_writesValue_98 : decode cX12_writesValue 98 = .ok (.aload_n 0, 1) := by decide +kernel
theorem dX12_writesValue_99 : decode cX12_writesValue 99 = .ok (.getfield 72, 3) := by decide +kernel
theorem dX12_writesValue_102 : decode cX12_writesValue 102 = .ok (.iconst 2, 1) := by decide +kernel
theorem dX12_writesValue_103 : decode cX12_writesValue 103 = .ok (.iload 4, 2) := by decide +kernel
theorem dX12_writesValue_105 : decode cX12_writesValue 105 = .ok (.imul, 1) := by decide +kernel
theorem dX12_writesValue_106 : decode cX12_writesValue 106 = .ok (.iload 5, 2) := by decide +kernel
theorem dX12_writesValue_108 : decode cX12_writesValue 108 = .ok (.iadd, 1) := by decide +kernel
theorem dX12_writesValue_109 : decode cX12_writesValue 109 = .ok (.iaload, 1) := by decide +kernel
theorem dX12_writesValue_110 : decode cX12_writesValue 110 = .ok (.aload_n 0, 1) := by decide +kernel
theorem dX12_writesValue_111 : decode cX12_writesValue 111 = .ok (.iload_n 2, 1) := by decide +kernel
theorem dX12_writesValue_112 : decode cX12_writesValue 112 = .ok (.iload_n 3, 1) := by decide +kernel
theorem dX12_writesValue_113 : decode cX12_writesValue 113 = .ok (.iload 5, 2) := by decide +kernel
theorem dX12_writesValue_115 : decode cX12_writesValue 115 = .ok (.invokevirtual 455, 3) := by decide +kernel
theorem dX12_writesValue_118 : decode cX12_writesValue 118 = .ok (.invokevirtual 538, 3) := by decide +kernel
theorem dX12_writesValue_121 : decode cX12_writesValue 121 = .ok (.aload_n 0, 1) := by decide +kernel
theorem dX12_writesValue_122 : decode cX12_writesValue 122 = .ok (.iconst 5, 1) := by decide +kernel
theorem dX12_writesValue_123 : decode cX12_writesValue 123 = .ok (.iload 5, 2) := by decide +kernel
theorem dX12_writesValue_125 : decode cX12_writesValue 125 = .ok (.ifCond .ne 8, 3) := by decide +kernel
theorem dX12_writesValue_128 : decode cX12_writesValue 128 = .ok (.bipush 40, 2) := by decide +kernel
theorem dX12_writesValue_130 : decode cX12_writesValue 130 = .ok (.goto 5, 3) := by decide +kernel
theorem dX12_writesValue_133 : decode cX12_writesValue 133 = .ok (.bipush 44, 2) := by decide +kernel
theorem dX12_writesValue_135 : decode cX12_writesValue 135 = .ok (.invokevirtual 538, 3) := by decide +kernel
theorem dX12_writesValue_138 : decode cX12_writesValue 138 = .ok (.iinc 5 (-1), 3) := by decide +kernel
theorem dX12_writesValue_141 : decode cX12_writesValue 141 = .ok (.goto (-49), 3) := by decide +kernel
theorem dX12_writesValue_144 : decode cX12_writesValue 144 = .ok (.return_, 1) := by decide +kernel
theorem dX12_text_0 : decode cX12_text 0 = .ok (.aload_n 0, 1) := by decide +kernel
theorem dX12_text_1 : decode cX12_text 1 = .ok (.iload_n 1, 1) := by decide +kernel
theorem dX12_text_2 : decode cX12_text 2 = .ok (.invokevirtual 516, 3) := by decide +kernel
theorem dX12_text_5 : decode cX12_text 5 = .ok (.ifCond .ne 5, 3) := by decide +kernel
theorem dX12_text_8 : decode cX12_text 8 = .ok (.iconst (-1), 1) := by decide +kernel
theorem dX12_text_9 : decode cX12_text 9 = .ok (.ireturn, 1) := by decide +kernel
theorem dX12_text_10 : decode cX12_text 10 = .ok (.aload_n 0, 1) := by decide +kernel
theorem dX12_text_11 : decode cX12_text 11 = .ok (.iload_n 1, 1) := by decide +kernel
theorem dX12_text_12 : decode cX12_text 12 = .ok (.invokevirtual 478, 3) := by decide +kernel
theorem dX12_text_15 : decode cX12_text 15 = .ok (.aload_n 0, 1) := by decide +kernel
theorem dX12_text_16 : decode cX12_text 16 = .ok (.iconst 0, 1) := by decide +kernel
theorem dX12_text_17 : decode cX12_text 17 = .ok (.putfield 224, 3) := by decide +kernel
theorem dX12_text_20 : decode cX12_text 20 = .ok (.aload_n 0, 1) := by decide +kernel
theorem dX12_text_21 : decode cX12_text 21 = .ok (.iconst 0, 1) := by decide +kernel
theorem dX12_text_22 : decode cX12_text 22 = .ok (.putfield 233, 3) := by decide +kernel
theorem dX12_text_25 : decode cX12_text 25 = .ok (.aload_n 0, 1) := by decide +kernel
theorem dX12_text_26 : decode cX12_text 26 = .ok (.invokevirtual 459, 3) := by decide +kernel
theorem dX12_text_29 : decode cX12_text 29 = .ok (.iconst 1, 1) := by decide +kernel
theorem dX12_text_30 : decode cX12_text 30 = .ok (.isub, 1) := by decide +kernel
theorem dX12_text_31 : decode cX12_text 31 = .ok (.istore_n 2, 1) := by decide +kernel
theorem dX12_text_32 : decode cX12_text 32 = .ok (.iload_n 2, 1) := by decide +kernel
theorem dX12_text_33 : decode cX12_text 33 = .ok (.ifCond .lt 43, 3) := by decide +kernel
theorem dX12_text_36 : decode cX12_text 36 = .ok (.aload_n 0, 1) := by decide +kernel
theorem dX12_text_37 : decode cX12_text 37 = .ok (.aload_n 0, 1) := by decide +kernel
theorem dX12_text_38 : decode cX12_text 38 = .ok (.getfield 84, 3) := by decide +kernel
theorem dX12_text_41 : decode cX12_text 41 = .ok (.iconst 4, 1) := by decide +kernel
theorem dX12_text_42 : decode cX12_text 42 = .ok (.aload_n 0, 1) := by decide +kernel
theorem dX12_text_43 : decode cX12_text 43 = .ok (.getfield 51, 3) := by decide +kernel
theorem dX12_text_46 : decode cX12_text 46 = .ok (.imul, 1) := by decide +kernel
theorem dX12_text_47 : decode cX12_text 47 = .ok (.iload_n 2, 1) := by decide +kernel
theorem dX12_text_48 : decode cX12_text 48 = .ok (.iadd, 1) := by decide +kernel
theorem dX12_text_49 : decode cX12_text 49 = .ok (.iaload, 1) := by decide +kernel
theorem dX12_text_50 : decode cX12_text 50 = .ok (.aload_n 0, 1) := by decide +kernel
theorem dX12_text_51 : decode cX12_text 51 = .ok (.getfield 215, 3) := by decide +kernel
theorem dX12_text_54 : decode cX12_text 54 = .ok (.iload_n 2, 1) := by decide +kernel
theorem dX12_text_55 : decode cX12_text 55 = .ok (.iaload, 1) := by decide +kernel
theorem dX12_text_56 : decode cX12_text 56 = .ok (.invokevirtual 538, 3) := by decide +kernel
theorem dX12_text_59 : decode cX12_text 59 = .ok (.iload_n 2, 1) := by decide +kernel
theorem dX12_text_60 : decode cX12_text 60 = .ok (.ifCond .le 10, 3) := by decide +kernel
theorem dX12_text_63 : decode cX12_text 63 = .ok (.aload_n 0, 1) := by decide +kernel
theorem dX12_text_64 : decode cX12_text 64 = .ok (.iconst 5, 1) := by decide +kernel
theorem dX12_text_65 : decode cX12_text 65 = .ok (.bipush 44, 2) := by decide +kernel
theorem dX12_text_67 : decode cX12_text 67 = .ok (.invokevirtual 538, 3) := by decide +kernel
theorem dX12_text_70 : decode cX12_text 70 = .ok (.iinc 2 (-1), 3) := by decide +kernel
theorem dX12_text_73 : decode cX12_text 73 = .ok (.goto (-41), 3) := by decide +kernel
theorem dX12_text_76 : decode cX12_text 76 = .ok (.aload_n 0, 1) := by decide +kernel
theorem dX12_text_77 : decode cX12_text 77 = .ok (.getfield 233, 3) := by decide +kernel
theorem dX12_text_80 : decode cX12_text 80 = .ok (.ifCond .le 55, 3) := by decide +kernel
theorem dX12_text_83 : decode cX12_text 83 = .ok (.aload_n 0, 1) := by decide +kernel
theorem dX12_text_84 : decode cX12_text 84 = .ok (.dup, 1) := by decide +kernel
theorem dX12_text_85 : decode cX12_text 85 = .ok (.getfield 233, 3) := by decide +kernel
theorem dX12_text_88 : decode cX12_text 88 = .ok (.iconst 1, 1) := by decide +kernel
theorem dX12_text_89 : decode cX12_text 89 = .ok (.isub, 1) := by decide +kernel
theorem dX12_text_90 : decode cX12_text 90 = .ok (.putfield 233, 3) := by decide +kernel
theorem dX12_text_93 : decode cX12_text 93 = .ok (.aload_n 0, 1) := by decide +kernel
theorem dX12_text_94 : decode cX12_text 94 = .ok (.getfield 227, 3) := by decide +kernel
theorem dX12_text_97 : decode cX12_text 97 = .ok (.aload_n 0, 1) := by decide +kernel
theorem dX12_text_98 : decode cX12_text 98 = .ok (.getfield 233, 3) := by decide +kernel
theorem dX12_text_101 : decode cX12_text 101 = .ok (.iaload, 1) := by decide +kernel
theorem dX12_text_102 : decode cX12_text 102 = .ok (.istore_n 2, 1) := by decide +kernel
theorem dX12_text_103 : decode cX12_text 103 = .ok (.aload_n 0, 1) := by decide +kernel
theorem dX12_text_104 : decode cX12_text 104 = .ok (.getfield 230, 3) := by decide +kernel
theorem dX12_text_107 : decode cX12_text 107 = .ok (.aload_n 0, 1) := by decide +kernel
theorem dX12_text_108 : decode cX12_text 108 = .ok (.getfield 233, 3) := by decide +kernel
theorem dX12_text_111 : decode cX12_text 111 = .ok (.iaload, 1) := by decide +kernel
theorem dX12_text_112 : decode cX12_text 112 = .ok (.istore_n 3, 1) := by decide +kernel
theorem dX12_text_113 : decode cX12_text 113 = .ok (.iload_n 2, 1) := by decide +kernel
theorem dX12_text_114 : decode cX12_text 114 = .ok (.iconst 5, 1) := by decide +kernel
theorem dX12_text_115 : decode cX12_text 115 = .ok (.if_icmp .ne 11, 3) := by decide +kernel
theorem dX12_text_118 : decode cX12_text 118 = .ok (.aload_n 0, 1) := by decide +kernel
theorem dX12_text_119 : decode cX12_text 119 = .ok (.iload_n 3, 1) := by decide +kernel
theorem dX12_text_120 : decode cX12_text 120 = .ok (.invokevirtual 528, 3) := by decide +kernel
theorem dX12_text_123 : decode cX12_text 123 = .ok (.goto 9, 3) := by decide +kernel
theorem dX12_text_126 : decode cX12_text 126 = .ok (.aload_n 0, 1) := by decide +kernel
theorem dX12_text_127 : decode cX12_text 127 = .ok (.iload_n 2, 1) := by decide +kernel
theorem dX12_text_128 : decode cX12_text 128 = .ok (.iload_n 3, 1) := by decide +kernel
theorem dX12_text_129 : decode cX12_text 129 = .ok (.invokevirtual 541, 3) := by decide +kernel
theorem dX12_text_132 : decode cX12_text 132 = .ok (.goto (-56), 3) := by decide +kernel
theorem dX12_text_135 : decode cX12_text 135 = .ok (.aload_n 0, 1) := by decide +kernel
theorem dX12_text_136 : decode cX12_text 136 = .ok (.getfield 224, 3) := by decide +kernel
theorem dX12_text_139 : decode cX12_text 139 = .ok (.ireturn, 1) := by decide +kernel
theorem dX12_octet_0 : decode cX12_octet 0 = .ok (.iload_n 1, 1) := by decide +kernel
theorem dX12_octet_1 : decode cX12_octet 1 = .ok (.iconst 0, 1) := by decide +kernel
theorem dX12_octet_2 : decode cX12_octet 2 = .ok (.aload_n 0, 1) := by decide +kernel
theorem dX12_octet_3 : decode cX12_octet 3 = .ok (.getfield 224, 3) := by decide +kernel
theorem dX12_octet_6 : decode cX12_octet 6 = .ok (.iconst 1, 1) := by decide +kernel
theorem dX12_octet_7 : decode cX12_octet 7 = .ok (.isub, 1) := by decide +kernel
theorem dX12_octet_8 : decode cX12_octet 8 = .ok (.invokestatic 362, 3) := by decide +kernel
theorem dX12_octet_11 : decode cX12_octet 11 = .ok (.ifCond .eq 12, 3) := by decide +kernel
theorem dX12_octet_14 : decode cX12_octet 14 = .ok (.aload_n 0, 1) := by decide +kernel
theorem dX12_octet_15 : decode cX12_octet 15 = .ok (.getfield 221, 3) := by decide +kernel
theorem dX12_octet_18 : decode cX12_octet 18 = .ok (.iload_n 1, 1) := by decide +kernel
theorem dX12_octet_19 : decode cX12_octet 19 = .ok (.iaload, 1) := by decide +kernel
theorem dX12_octet_20 : decode cX12_octet 20 = .ok (.goto 4, 3) := by decide +kernel
theorem dX12_octet_23 : decode cX12_octet 23 = .ok (.iconst (-1), 1) := by decide +kernel
theorem dX12_octet_24 : decode cX12_octet 24 = .ok (.ireturn, 1) := by decide +kernel
theorem dX12_leftOf_0 : decode cX12_leftOf 0 = .ok (.iload_n 0, 1) := by decide +kernel
theorem dX12_leftOf_1 : decode cX12_leftOf 1 = .ok (.iload_n 1, 1) := by decide +kernel
theorem dX12_leftOf_2 : decode cX12_leftOf 2 = .ok (.bipush 12, 2) := by decide +kernel
theorem dX12_leftOf_4 : decode cX12_leftOf 4 = .ok (.ishl, 1) := by decide +kernel
theorem dX12_leftOf_5 : decode cX12_leftOf 5 = .ok (.ior, 1) := by decide +kernel
theorem dX12_leftOf_6 : decode cX12_leftOf 6 = .ok (.ireturn, 1) := by decide +kernel
theorem dX12_armsIn_0 : decode cX12_armsIn 0 = .ok (.iload_n 0, 1) := by decide +kernel
theorem dX12_armsIn_1 : decode cX12_armsIn 1 = .ok (.sipush 4095, 3) := by decide +kernel
theorem dX12_armsIn_4 : decode cX12_armsIn 4 = .ok (.iand, 1) := by decide +kernel
theorem dX12_armsIn_5 : decode cX12_armsIn 5 = .ok (.ireturn, 1) := by decide +kernel
theorem dX12_columnsIn_0 : decode cX12_columnsIn 0 = .ok (.iload_n 0, 1) := by decide +kernel
theorem dX12_columnsIn_1 : decode cX12_columnsIn 1 = .ok (.bipush 12, 2) := by decide +kernel
theorem dX12_columnsIn_3 : decode cX12_columnsIn 3 = .ok (.ishr, 1) := by decide +kernel
theorem dX12_columnsIn_4 : decode cX12_columnsIn 4 = .ok (.ireturn, 1) := by decide +kernel
theorem dX12_worthOf_0 : decode cX12_worthOf 0 = .ok (.iconst 0, 1) := by decide +kernel
theorem dX12_worthOf_1 : decode cX12_worthOf 1 = .ok (.istore_n 3, 1) := by decide +kernel
theorem dX12_worthOf_2 : decode cX12_worthOf 2 = .ok (.aload_n 0, 1) := by decide +kernel
theorem dX12_worthOf_3 : decode cX12_worthOf 3 = .ok (.getfield 243, 3) := by decide +kernel
theorem dX12_worthOf_6 : decode cX12_worthOf 6 = .ok (.ifCond .ne 5, 3) := by decide +kernel
theorem dX12_worthOf_9 : decode cX12_worthOf 9 = .ok (.iconst 0, 1) := by decide +kernel
theorem dX12_worthOf_10 : decode cX12_worthOf 10 = .ok (.ireturn, 1) := by decide +kernel
theorem dX12_worthOf_11 : decode cX12_worthOf 11 = .ok (.aload_n 0, 1) := by decide +kernel
theorem dX12_worthOf_12 : decode cX12_worthOf 12 = .ok (.getfield 243, 3) := by decide +kernel
theorem dX12_worthOf_15 : decode cX12_worthOf 15 = .ok (.iconst 1, 1) := by decide +kernel
theorem dX12_worthOf_16 : decode cX12_worthOf 16 = .ok (.if_icmp .ne 45, 3) := by decide +kernel
theorem dX12_worthOf_19 : decode cX12_worthOf 19 = .ok (.iload_n 1, 1) := by decide +kernel
theorem dX12_worthOf_20 : decode cX12_worthOf 20 = .ok (.istore 4, 2) := by decide +kernel
theorem dX12_worthOf_22 : decode cX12_worthOf 22 = .ok (.iload 4, 2) := by decide +kernel
theorem dX12_worthOf_24 : decode cX12_worthOf 24 = .ok (.ifCond .le 35, 3) := by decide +kernel
theorem dX12_worthOf_27 : decode cX12_worthOf 27 = .ok (.aload_n 0, 1) := by decide +kernel
theorem dX12_worthOf_28 : decode cX12_worthOf 28 = .ok (.getfield 206, 3) := by decide +kernel
theorem dX12_worthOf_31 : decode cX12_worthOf 31 = .ok (.iload_n 2, 1) := by decide +kernel
theorem dX12_worthOf_32 : decode cX12_worthOf 32 = .ok (.iaload, 1) := by decide +kernel
theorem dX12_worthOf_33 : decode cX12_worthOf 33 = .ok (.iload 4, 2) := by decide +kernel
theorem dX12_worthOf_35 : decode cX12_worthOf 35 = .ok (.invokestatic 495, 3) := by decide +kernel
theorem dX12_worthOf_38 : decode cX12_worthOf 38 = .ok (.ishr, 1) := by decide +kernel
theorem dX12_worthOf_39 : decode cX12_worthOf 39 = .ok (.iconst 1, 1) := by decide +kernel
theorem dX12_worthOf_40 : decode cX12_worthOf 40 = .ok (.iand, 1) := by decide +kernel
theorem dX12_worthOf_41 : decode cX12_worthOf 41 = .ok (.ifCond .ne 18, 3) := by decide +kernel
theorem dX12_worthOf_44 : decode cX12_worthOf 44 = .ok (.iinc 3 1, 3) := by decide +kernel
theorem dX12_worthOf_47 : decode cX12_worthOf 47 = .ok (.iload 4, 2) := by decide +kernel
