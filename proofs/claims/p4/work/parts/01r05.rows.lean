theorem dX6_fillCase_123 : decode cX6_fillCase 123 = .ok (.iload 10, 2) := by decide +kernel
theorem dX6_fillCase_125 : decode cX6_fillCase 125 = .ok (.sipush 2048, 3) := by decide +kernel
theorem dX6_fillCase_128 : decode cX6_fillCase 128 = .ok (.if_icmp .ge 48, 3) := by decide +kernel
theorem dX6_fillCase_131 : decode cX6_fillCase 131 = .ok (.iload 7, 2) := by decide +kernel
theorem dX6_fillCase_133 : decode cX6_fillCase 133 = .ok (.ifCond .ne 17, 3) := by decide +kernel
theorem dX6_fillCase_136 : decode cX6_fillCase 136 = .ok (.aload_n 0, 1) := by decide +kernel
theorem dX6_fillCase_137 : decode cX6_fillCase 137 = .ok (.getfield 20, 3) := by decide +kernel
theorem dX6_fillCase_140 : decode cX6_fillCase 140 = .ok (.iload_n 3, 1) := by decide +kernel
theorem dX6_fillCase_141 : decode cX6_fillCase 141 = .ok (.iconst 1, 1) := by decide +kernel
theorem dX6_fillCase_142 : decode cX6_fillCase 142 = .ok (.iadd, 1) := by decide +kernel
theorem dX6_fillCase_143 : decode cX6_fillCase 143 = .ok (.aaload, 1) := by decide +kernel
theorem dX6_fillCase_144 : decode cX6_fillCase 144 = .ok (.iload 10, 2) := by decide +kernel
theorem dX6_fillCase_146 : decode cX6_fillCase 146 = .ok (.iaload, 1) := by decide +kernel
theorem dX6_fillCase_147 : decode cX6_fillCase 147 = .ok (.ifCond .eq 23, 3) := by decide +kernel
theorem dX6_fillCase_150 : decode cX6_fillCase 150 = .ok (.aload_n 0, 1) := by decide +kernel
theorem dX6_fillCase_151 : decode cX6_fillCase 151 = .ok (.getfield 20, 3) := by decide +kernel
theorem dX6_fillCase_154 : decode cX6_fillCase 154 = .ok (.iload_n 2, 1) := by decide +kernel
theorem dX6_fillCase_155 : decode cX6_fillCase 155 = .ok (.aaload, 1) := by decide +kernel
theorem dX6_fillCase_156 : decode cX6_fillCase 156 = .ok (.iload 9, 2) := by decide +kernel
theorem dX6_fillCase_158 : decode cX6_fillCase 158 = .ok (.iload 10, 2) := by decide +kernel
theorem dX6_fillCase_160 : decode cX6_fillCase 160 = .ok (.iadd, 1) := by decide +kernel
theorem dX6_fillCase_161 : decode cX6_fillCase 161 = .ok (.iload 9, 2) := by decide +kernel
theorem dX6_fillCase_163 : decode cX6_fillCase 163 = .ok (.iload 10, 2) := by decide +kernel
theorem dX6_fillCase_165 : decode cX6_fillCase 165 = .ok (.iadd, 1) := by decide +kernel
theorem dX6_fillCase_166 : decode cX6_fillCase 166 = .ok (.iconst 1, 1) := by decide +kernel
theorem dX6_fillCase_167 : decode cX6_fillCase 167 = .ok (.invokestatic 174, 3) := by decide +kernel
theorem dX6_fillCase_170 : decode cX6_fillCase 170 = .ok (.iinc 10 1, 3) := by decide +kernel
theorem dX6_fillCase_173 : decode cX6_fillCase 173 = .ok (.goto (-57), 3) := by decide +kernel
theorem dX6_fillCase_176 : decode cX6_fillCase 176 = .ok (.iinc 8 1, 3) := by decide +kernel
theorem dX6_fillCase_179 : decode cX6_fillCase 179 = .ok (.goto (-111), 3) := by decide +kernel
theorem dX6_fillCase_182 : decode cX6_fillCase 182 = .ok (.return_, 1) := by decide +kernel
theorem dX6_fill_0 : decode cX6_fill 0 = .ok (.iload_n 1, 1) := by decide +kernel
theorem dX6_fill_1 : decode cX6_fill 1 = .ok (.iconst 0, 1) := by decide +kernel
theorem dX6_fill_2 : decode cX6_fill 2 = .ok (.invokestatic 209, 3) := by decide +kernel
theorem dX6_fill_5 : decode cX6_fill 5 = .ok (.istore 4, 2) := by decide +kernel
theorem dX6_fill_7 : decode cX6_fill 7 = .ok (.iload 4, 2) := by decide +kernel
theorem dX6_fill_9 : decode cX6_fill 9 = .ok (.iload_n 2, 1) := by decide +kernel
theorem dX6_fill_10 : decode cX6_fill 10 = .ok (.if_icmp .gt 21, 3) := by decide +kernel
theorem dX6_fill_13 : decode cX6_fill 13 = .ok (.iload 4, 2) := by decide +kernel
theorem dX6_fill_15 : decode cX6_fill 15 = .ok (.aload_n 0, 1) := by decide +kernel
theorem dX6_fill_16 : decode cX6_fill 16 = .ok (.arraylength, 1) := by decide +kernel
theorem dX6_fill_17 : decode cX6_fill 17 = .ok (.if_icmp .ge 14, 3) := by decide +kernel
theorem dX6_fill_20 : decode cX6_fill 20 = .ok (.aload_n 0, 1) := by decide +kernel
theorem dX6_fill_21 : decode cX6_fill 21 = .ok (.iload 4, 2) := by decide +kernel
theorem dX6_fill_23 : decode cX6_fill 23 = .ok (.iload_n 3, 1) := by decide +kernel
theorem dX6_fill_24 : decode cX6_fill 24 = .ok (.iastore, 1) := by decide +kernel
theorem dX6_fill_25 : decode cX6_fill 25 = .ok (.iinc 4 1, 3) := by decide +kernel
theorem dX6_fill_28 : decode cX6_fill 28 = .ok (.goto (-21), 3) := by decide +kernel
theorem dX6_fill_31 : decode cX6_fill 31 = .ok (.return_, 1) := by decide +kernel
theorem dX6_readRow_0 : decode cX6_readRow 0 = .ok (.aload_n 0, 1) := by decide +kernel
theorem dX6_readRow_1 : decode cX6_readRow 1 = .ok (.aload_n 2, 1) := by decide +kernel
theorem dX6_readRow_2 : decode cX6_readRow 2 = .ok (.putfield 27, 3) := by decide +kernel
theorem dX6_readRow_5 : decode cX6_readRow 5 = .ok (.aload_n 0, 1) := by decide +kernel
theorem dX6_readRow_6 : decode cX6_readRow 6 = .ok (.aload_n 1, 1) := by decide +kernel
theorem dX6_readRow_7 : decode cX6_readRow 7 = .ok (.invokevirtual 36, 3) := by decide +kernel
theorem dX6_readRow_10 : decode cX6_readRow 10 = .ok (.aload_n 0, 1) := by decide +kernel
theorem dX6_readRow_11 : decode cX6_readRow 11 = .ok (.getfield 27, 3) := by decide +kernel
theorem dX6_readRow_14 : decode cX6_readRow 14 = .ok (.getfield 79, 3) := by decide +kernel
theorem dX6_readRow_17 : decode cX6_readRow 17 = .ok (.ifCond .ne 12, 3) := by decide +kernel
theorem dX6_readRow_20 : decode cX6_readRow 20 = .ok (.aload_n 0, 1) := by decide +kernel
theorem dX6_readRow_21 : decode cX6_readRow 21 = .ok (.iconst 1, 1) := by decide +kernel
theorem dX6_readRow_22 : decode cX6_readRow 22 = .ok (.iconst 0, 1) := by decide +kernel
theorem dX6_readRow_23 : decode cX6_readRow 23 = .ok (.invokevirtual 75, 3) := by decide +kernel
theorem dX6_readRow_26 : decode cX6_readRow 26 = .ok (.pop, 1) := by decide +kernel
theorem dX6_readRow_27 : decode cX6_readRow 27 = .ok (.iconst (-1), 1) := by decide +kernel
theorem dX6_readRow_28 : decode cX6_readRow 28 = .ok (.ireturn, 1) := by decide +kernel
theorem dX6_readRow_29 : decode cX6_readRow 29 = .ok (.iconst 0, 1) := by decide +kernel
theorem dX6_readRow_30 : decode cX6_readRow 30 = .ok (.istore_n 3, 1) := by decide +kernel
theorem dX6_readRow_31 : decode cX6_readRow 31 = .ok (.iconst 0, 1) := by decide +kernel
theorem dX6_readRow_32 : decode cX6_readRow 32 = .ok (.istore 4, 2) := by decide +kernel
theorem dX6_readRow_34 : decode cX6_readRow 34 = .ok (.iload 4, 2) := by decide +kernel
theorem dX6_readRow_36 : decode cX6_readRow 36 = .ok (.aload_n 0, 1) := by decide +kernel
theorem dX6_readRow_37 : decode cX6_readRow 37 = .ok (.getfield 27, 3) := by decide +kernel
theorem dX6_readRow_40 : decode cX6_readRow 40 = .ok (.getfield 79, 3) := by decide +kernel
theorem dX6_readRow_43 : decode cX6_readRow 43 = .ok (.if_icmp .ge 66, 3) := by decide +kernel
theorem dX6_readRow_46 : decode cX6_readRow 46 = .ok (.iload 4, 2) := by decide +kernel
theorem dX6_readRow_48 : decode cX6_readRow 48 = .ok (.ifCond .le 14, 3) := by decide +kernel
theorem dX6_readRow_51 : decode cX6_readRow 51 = .ok (.aload_n 0, 1) := by decide +kernel
theorem dX6_readRow_52 : decode cX6_readRow 52 = .ok (.bipush 44, 2) := by decide +kernel
theorem dX6_readRow_54 : decode cX6_readRow 54 = .ok (.invokevirtual 68, 3) := by decide +kernel
theorem dX6_readRow_57 : decode cX6_readRow 57 = .ok (.ifCond .ne 5, 3) := by decide +kernel
theorem dX6_readRow_60 : decode cX6_readRow 60 = .ok (.iconst (-1), 1) := by decide +kernel
theorem dX6_readRow_61 : decode cX6_readRow 61 = .ok (.ireturn, 1) := by decide +kernel
theorem dX6_readRow_62 : decode cX6_readRow 62 = .ok (.aload_n 0, 1) := by decide +kernel
theorem dX6_readRow_63 : decode cX6_readRow 63 = .ok (.aload_n 0, 1) := by decide +kernel
theorem dX6_readRow_64 : decode cX6_readRow 64 = .ok (.getfield 27, 3) := by decide +kernel
theorem dX6_readRow_67 : decode cX6_readRow 67 = .ok (.getfield 159, 3) := by decide +kernel
theorem dX6_readRow_70 : decode cX6_readRow 70 = .ok (.iload 4, 2) := by decide +kernel
theorem dX6_readRow_72 : decode cX6_readRow 72 = .ok (.iaload, 1) := by decide +kernel
theorem dX6_readRow_73 : decode cX6_readRow 73 = .ok (.iconst 0, 1) := by decide +kernel
theorem dX6_readRow_74 : decode cX6_readRow 74 = .ok (.invokestatic 214, 3) := by decide +kernel
theorem dX6_readRow_77 : decode cX6_readRow 77 = .ok (.istore 5, 2) := by decide +kernel
theorem dX6_readRow_79 : decode cX6_readRow 79 = .ok (.iload 5, 2) := by decide +kernel
theorem dX6_readRow_81 : decode cX6_readRow 81 = .ok (.iconst (-1), 1) := by decide +kernel
theorem dX6_readRow_82 : decode cX6_readRow 82 = .ok (.if_icmp .ne 5, 3) := by decide +kernel
theorem dX6_readRow_85 : decode cX6_readRow 85 = .ok (.iconst (-1), 1) := by decide +kernel
theorem dX6_readRow_86 : decode cX6_readRow 86 = .ok (.ireturn, 1) := by decide +kernel
theorem dX6_readRow_87 : decode cX6_readRow 87 = .ok (.iload_n 3, 1) := by decide +kernel
theorem dX6_readRow_88 : decode cX6_readRow 88 = .ok (.aload_n 0, 1) := by decide +kernel
theorem dX6_readRow_89 : decode cX6_readRow 89 = .ok (.getfield 27, 3) := by decide +kernel
theorem dX6_readRow_92 : decode cX6_readRow 92 = .ok (.getfield 218, 3) := by decide +kernel
theorem dX6_readRow_95 : decode cX6_readRow 95 = .ok (.iload 4, 2) := by decide +kernel
theorem dX6_readRow_97 : decode cX6_readRow 97 = .ok (.iaload, 1) := by decide +kernel
theorem dX6_readRow_98 : decode cX6_readRow 98 = .ok (.imul, 1) := by decide +kernel
theorem dX6_readRow_99 : decode cX6_readRow 99 = .ok (.iload 5, 2) := by decide +kernel
theorem dX6_readRow_101 : decode cX6_readRow 101 = .ok (.iadd, 1) := by decide +kernel
theorem dX6_readRow_102 : decode cX6_readRow 102 = .ok (.istore_n 3, 1) := by decide +kernel
theorem dX6_readRow_103 : decode cX6_readRow 103 = .ok (.iinc 4 1, 3) := by decide +kernel
theorem dX6_readRow_106 : decode cX6_readRow 106 = .ok (.goto (-72), 3) := by decide +kernel
theorem dX6_readRow_109 : decode cX6_readRow 109 = .ok (.aload_n 0, 1) := by decide +kernel
theorem dX6_readRow_110 : decode cX6_readRow 110 = .ok (.getfield 12, 3) := by decide +kernel
theorem dX6_readRow_113 : decode cX6_readRow 113 = .ok (.getfield 40, 3) := by decide +kernel
theorem dX6_readRow_116 : decode cX6_readRow 116 = .ok (.ifCond .eq 10, 3) := by decide +kernel
theorem dX6_readRow_119 : decode cX6_readRow 119 = .ok (.aload_n 0, 1) := by decide +kernel
theorem dX6_readRow_120 : decode cX6_readRow 120 = .ok (.invokevirtual 65, 3) := by decide +kernel
theorem dX6_readRow_123 : decode cX6_readRow 123 = .ok (.pop, 1) := by decide +kernel
theorem dX6_readRow_124 : decode cX6_readRow 124 = .ok (.iconst (-1), 1) := by decide +kernel
theorem dX6_readRow_125 : decode cX6_readRow 125 = .ok (.ireturn, 1) := by decide +kernel
theorem dX6_readRow_126 : decode cX6_readRow 126 = .ok (.iload_n 3, 1) := by decide +kernel
theorem dX6_readRow_127 : decode cX6_readRow 127 = .ok (.ireturn, 1) := by decide +kernel
theorem dX6_readValue_0 : decode cX6_readValue 0 = .ok (.iload_n 1, 1) := by decide +kernel
theorem dX6_readValue_1 : decode cX6_readValue 1 = .ok (.iconst (-1), 1) := by decide +kernel
theorem dX6_readValue_2 : decode cX6_readValue 2 = .ok (.if_icmp .ne 11, 3) := by decide +kernel
theorem dX6_readValue_5 : decode cX6_readValue 5 = .ok (.aload_n 0, 1) := by decide +kernel
theorem dX6_readValue_6 : decode cX6_readValue 6 = .ok (.iconst 0, 1) := by decide +kernel
theorem dX6_readValue_7 : decode cX6_readValue 7 = .ok (.bipush 19, 2) := by decide +kernel
theorem dX6_readValue_9 : decode cX6_readValue 9 = .ok (.invokevirtual 98, 3) := by decide +kernel
theorem dX6_readValue_12 : decode cX6_readValue 12 = .ok (.ireturn, 1) := by decide +kernel
theorem dX6_readValue_13 : decode cX6_readValue 13 = .ok (.iload_n 2, 1) := by decide +kernel
theorem dX6_readValue_14 : decode cX6_readValue 14 = .ok (.iconst 4, 1) := by decide +kernel
theorem dX6_readValue_15 : decode cX6_readValue 15 = .ok (.if_icmp .le 7, 3) := by decide +kernel
theorem dX6_readValue_18 : decode cX6_readValue 18 = .ok (.iconst (-1), 1) := by decide +kernel
theorem dX6_readValue_19 : decode cX6_readValue 19 = .ok (.goto 8, 3) := by decide +kernel
theorem dX6_readValue_22 : decode cX6_readValue 22 = .ok (.aload_n 0, 1) := by decide +kernel
theorem dX6_readValue_23 : decode cX6_readValue 23 = .ok (.iload_n 1, 1) := by decide +kernel
theorem dX6_readValue_24 : decode cX6_readValue 24 = .ok (.invokevirtual 184, 3) := by decide +kernel
theorem dX6_readValue_27 : decode cX6_readValue 27 = .ok (.istore_n 3, 1) := by decide +kernel
theorem dX6_readValue_28 : decode cX6_readValue 28 = .ok (.iload_n 3, 1) := by decide +kernel
theorem dX6_readValue_29 : decode cX6_readValue 29 = .ok (.iconst (-1), 1) := by decide +kernel
theorem dX6_readValue_30 : decode cX6_readValue 30 = .ok (.if_icmp .ne 5, 3) := by decide +kernel
theorem dX6_readValue_33 : decode cX6_readValue 33 = .ok (.iconst (-1), 1) := by decide +kernel
theorem dX6_readValue_34 : decode cX6_readValue 34 = .ok (.ireturn, 1) := by decide +kernel
theorem dX6_readValue_35 : decode cX6_readValue 35 = .ok (.aload_n 0, 1) := by decide +kernel
theorem dX6_readValue_36 : decode cX6_readValue 36 = .ok (.getfield 27, 3) := by decide +kernel
theorem dX6_readValue_39 : decode cX6_readValue 39 = .ok (.getfield 108, 3) := by decide +kernel
theorem dX6_readValue_42 : decode cX6_readValue 42 = .ok (.astore 4, 2) := by decide +kernel
theorem dX6_readValue_44 : decode cX6_readValue 44 = .ok (.aload 4, 2) := by decide +kernel
theorem dX6_readValue_46 : decode cX6_readValue 46 = .ok (.getfield 187, 3) := by decide +kernel
theorem dX6_readValue_49 : decode cX6_readValue 49 = .ok (.iload_n 3, 1) := by decide +kernel
theorem dX6_readValue_50 : decode cX6_readValue 50 = .ok (.iaload, 1) := by decide +kernel
theorem dX6_readValue_51 : decode cX6_readValue 51 = .ok (.ifCond .ne 11, 3) := by decide +kernel
theorem dX6_readValue_54 : decode cX6_readValue 54 = .ok (.aload 4, 2) := by decide +kernel
theorem dX6_readValue_56 : decode cX6_readValue 56 = .ok (.getfield 190, 3) := by decide +kernel
theorem dX6_readValue_59 : decode cX6_readValue 59 = .ok (.iload_n 3, 1) := by decide +kernel
theorem dX6_readValue_60 : decode cX6_readValue 60 = .ok (.iaload, 1) := by decide +kernel
theorem dX6_readValue_61 : decode cX6_readValue 61 = .ok (.ireturn, 1) := by decide +kernel
theorem dX6_readValue_62 : decode cX6_readValue 62 = .ok (.aload_n 0, 1) := by decide +kernel
theorem dX6_readValue_63 : decode cX6_readValue 63 = .ok (.bipush 40, 2) := by decide +kernel
theorem dX6_readValue_65 : decode cX6_readValue 65 = .ok (.invokevirtual 68, 3) := by decide +kernel
theorem dX6_readValue_68 : decode cX6_readValue 68 = .ok (.ifCond .eq 20, 3) := by decide +kernel
theorem dX6_readValue_71 : decode cX6_readValue 71 = .ok (.aload_n 0, 1) := by decide +kernel
theorem dX6_readValue_72 : decode cX6_readValue 72 = .ok (.aload 4, 2) := by decide +kernel
theorem dX6_readValue_74 : decode cX6_readValue 74 = .ok (.getfield 193, 3) := by decide +kernel
theorem dX6_readValue_77 : decode cX6_readValue 77 = .ok (.iload_n 3, 1) := by decide +kernel
theorem dX6_readValue_78 : decode cX6_readValue 78 = .ok (.iaload, 1) := by decide +kernel
theorem dX6_readValue_79 : decode cX6_readValue 79 = .ok (.iload_n 2, 1) := by decide +kernel
theorem dX6_readValue_80 : decode cX6_readValue 80 = .ok (.iconst 1, 1) := by decide +kernel
theorem dX6_readValue_81 : decode cX6_readValue 81 = .ok (.iadd, 1) := by decide +kernel
theorem dX6_readValue_82 : decode cX6_readValue 82 = .ok (.invokestatic 214, 3) := by decide +kernel
theorem dX6_readValue_85 : decode cX6_readValue 85 = .ok (.goto 4, 3) := by decide +kernel
theorem dX6_readValue_88 : decode cX6_readValue 88 = .ok (.iconst (-1), 1) := by decide +kernel
theorem dX6_readValue_89 : decode cX6_readValue 89 = .ok (.istore 5, 2) := by decide +kernel
theorem dX6_readValue_91 : decode cX6_readValue 91 = .ok (.iload 5, 2) := by decide +kernel
theorem dX6_readValue_93 : decode cX6_readValue 93 = .ok (.iconst (-1), 1) := by decide +kernel
theorem dX6_readValue_94 : decode cX6_readValue 94 = .ok (.if_icmp .ne 5, 3) := by decide +kernel
theorem dX6_readValue_97 : decode cX6_readValue 97 = .ok (.iconst (-1), 1) := by decide +kernel
theorem dX6_readValue_98 : decode cX6_readValue 98 = .ok (.ireturn, 1) := by decide +kernel
theorem dX6_readValue_99 : decode cX6_readValue 99 = .ok (.iconst 0, 1) := by decide +kernel
theorem dX6_readValue_100 : decode cX6_readValue 100 = .ok (.istore 6, 2) := by decide +kernel
theorem dX6_readValue_102 : decode cX6_readValue 102 = .ok (.aload 4, 2) := by decide +kernel
theorem dX6_readValue_104 : decode cX6_readValue 104 = .ok (.getfield 187, 3) := by decide +kernel
theorem dX6_readValue_107 : decode cX6_readValue 107 = .ok (.iload_n 3, 1) := by decide +kernel
theorem dX6_readValue_108 : decode cX6_readValue 108 = .ok (.iaload, 1) := by decide +kernel
theorem dX6_readValue_109 : decode cX6_readValue 109 = .ok (.iconst 2, 1) := by decide +kernel
theorem dX6_readValue_110 : decode cX6_readValue 110 = .ok (.if_icmp .ne 32, 3) := by decide +kernel
theorem dX6_readValue_113 : decode cX6_readValue 113 = .ok (.aload_n 0, 1) := by decide +kernel
theorem dX6_readValue_114 : decode cX6_readValue 114 = .ok (.bipush 44, 2) := by decide +kernel
theorem dX6_readValue_116 : decode cX6_readValue 116 = .ok (.invokevirtual 68, 3) := by decide +kernel
theorem dX6_readValue_119 : decode cX6_readValue 119 = .ok (.ifCond .eq 20, 3) := by decide +kernel
theorem dX6_readValue_122 : decode cX6_readValue 122 = .ok (.aload_n 0, 1) := by decide +kernel
theorem dX6_readValue_123 : decode cX6_readValue 123 = .ok (.aload 4, 2) := by decide +kernel
theorem dX6_readValue_125 : decode cX6_readValue 125 = .ok (.getfield 196, 3) := by decide +kernel
theorem dX6_readValue_128 : decode cX6_readValue 128 = .ok (.iload_n 3, 1) := by decide +kernel
theorem dX6_readValue_129 : decode cX6_readValue 129 = .ok (.iaload, 1) := by decide +kernel
theorem dX6_readValue_130 : decode cX6_readValue 130 = .ok (.iload_n 2, 1) := by decide +kernel
theorem dX6_readValue_131 : decode cX6_readValue 131 = .ok (.iconst 1, 1) := by decide +kernel
theorem dX6_readValue_132 : decode cX6_readValue 132 = .ok (.iadd, 1) := by decide +kernel
theorem dX6_readValue_133 : decode cX6_readValue 133 = .ok (.invokestatic 214, 3) := by decide +kernel
theorem dX6_readValue_136 : decode cX6_readValue 136 = .ok (.goto 4, 3) := by decide +kernel
theorem dX6_readValue_139 : decode cX6_readValue 139 = .ok (.iconst (-1), 1) := by decide +kernel
theorem dX6_readValue_140 : decode cX6_readValue 140 = .ok (.istore 6, 2) := by decide +kernel
theorem dX6_readValue_142 : decode cX6_readValue 142 = .ok (.iload 6, 2) := by decide +kernel
theorem dX6_readValue_144 : decode cX6_readValue 144 = .ok (.iconst (-1), 1) := by decide +kernel
theorem dX6_readValue_145 : decode cX6_readValue 145 = .ok (.if_icmp .eq 12, 3) := by decide +kernel
theorem dX6_readValue_148 : decode cX6_readValue 148 = .ok (.aload_n 0, 1) := by decide +kernel
theorem dX6_readValue_149 : decode cX6_readValue 149 = .ok (.bipush 41, 2) := by decide +kernel
theorem dX6_readValue_151 : decode cX6_readValue 151 = .ok (.invokevirtual 68, 3) := by decide +kernel
theorem dX6_readValue_154 : decode cX6_readValue 154 = .ok (.ifCond .ne 5, 3) := by decide +kernel
theorem dX6_readValue_157 : decode cX6_readValue 157 = .ok (.iconst (-1), 1) := by decide +kernel
theorem dX6_readValue_158 : decode cX6_readValue 158 = .ok (.ireturn, 1) := by decide +kernel
theorem dX6_readValue_159 : decode cX6_readValue 159 = .ok (.aload 4, 2) := by decide +kernel
theorem dX6_readValue_161 : decode cX6_readValue 161 = .ok (.getfield 190, 3) := by decide +kernel
theorem dX6_readValue_164 : decode cX6_readValue 164 = .ok (.iload_n 3, 1) := by decide +kernel
theorem dX6_readValue_165 : decode cX6_readValue 165 = .ok (.iaload, 1) := by decide +kernel
theorem dX6_readValue_166 : decode cX6_readValue 166 = .ok (.iload 5, 2) := by decide +kernel
theorem dX6_readValue_168 : decode cX6_readValue 168 = .ok (.aload 4, 2) := by decide +kernel
theorem dX6_readValue_170 : decode cX6_readValue 170 = .ok (.iload_n 3, 1) := by decide +kernel
theorem dX6_readValue_171 : decode cX6_readValue 171 = .ok (.invokevirtual 206, 3) := by decide +kernel
theorem dX6_readValue_174 : decode cX6_readValue 174 = .ok (.imul, 1) := by decide +kernel
theorem dX6_readValue_175 : decode cX6_readValue 175 = .ok (.iadd, 1) := by decide +kernel
theorem dX6_readValue_176 : decode cX6_readValue 176 = .ok (.iload 6, 2) := by decide +kernel
theorem dX6_readValue_178 : decode cX6_readValue 178 = .ok (.iadd, 1) := by decide +kernel
theorem dX6_readValue_179 : decode cX6_readValue 179 = .ok (.ireturn, 1) := by decide +kernel
theorem dX7_init_0 : decode cX7_init 0 = .ok (.aload_n 0, 1) := by decide +kernel
theorem dX7_init_1 : decode cX7_init 1 = .ok (.invokespecial 3, 3) := by decide +kernel
theorem dX7_init_4 : decode cX7_init 4 = .ok (.aload_n 0, 1) := by decide +kernel
theorem dX7_init_5 : decode cX7_init 5 = .ok (.bipush 11, 2) := by decide +kernel
theorem dX7_init_7 : decode cX7_init 7 = .ok (.newarray .int, 2) := by decide +kernel
theorem dX7_init_9 : decode cX7_init 9 = .ok (.dup, 1) := by decide +kernel
theorem dX7_init_10 : decode cX7_init 10 = .ok (.iconst 0, 1) := by decide +kernel
theorem dX7_init_11 : decode cX7_init 11 = .ok (.ldc 9, 2) := by decide +kernel
theorem dX7_init_13 : decode cX7_init 13 = .ok (.invokestatic 11, 3) := by decide +kernel
theorem dX7_init_16 : decode cX7_init 16 = .ok (.iastore, 1) := by decide +kernel
theorem dX7_init_17 : decode cX7_init 17 = .ok (.dup, 1) := by decide +kernel
theorem dX7_init_18 : decode cX7_init 18 = .ok (.iconst 1, 1) := by decide +kernel
theorem dX7_init_19 : decode cX7_init 19 = .ok (.ldc 17, 2) := by decide +kernel
theorem dX7_init_21 : decode cX7_init 21 = .ok (.invokestatic 11, 3) := by decide +kernel
theorem dX7_init_24 : decode cX7_init 24 = .ok (.iastore, 1) := by decide +kernel
theorem dX7_init_25 : decode cX7_init 25 = .ok (.dup, 1) := by decide +kernel
theorem dX7_init_26 : decode cX7_init 26 = .ok (.iconst 2, 1) := by decide +kernel
theorem dX7_init_27 : decode cX7_init 27 = .ok (.ldc 19, 2) := by decide +kernel
theorem dX7_init_29 : decode cX7_init 29 = .ok (.invokestatic 11, 3) := by decide +kernel
theorem dX7_init_32 : decode cX7_init 32 = .ok (.iastore, 1) := by decide +kernel
theorem dX7_init_33 : decode cX7_init 33 = .ok (.dup, 1) := by decide +kernel
theorem dX7_init_34 : decode cX7_init 34 = .ok (.iconst 3, 1) := by decide +kernel
theorem dX7_init_35 : decode cX7_init 35 = .ok (.ldc 21, 2) := by decide +kernel
theorem dX7_init_37 : decode cX7_init 37 = .ok (.invokestatic 11, 3) := by decide +kernel
theorem dX7_init_40 : decode cX7_init 40 = .ok (.iastore, 1) := by decide +kernel
theorem dX7_init_41 : decode cX7_init 41 = .ok (.dup, 1) := by decide +kernel
theorem dX7_init_42 : decode cX7_init 42 = .ok (.iconst 4, 1) := by decide +kernel
theorem dX7_init_43 : decode cX7_init 43 = .ok (.ldc 23, 2) := by decide +kernel
theorem dX7_init_45 : decode cX7_init 45 = .ok (.invokestatic 11, 3) := by decide +kernel
theorem dX7_init_48 : decode cX7_init 48 = .ok (.iastore, 1) := by decide +kernel
theorem dX7_init_49 : decode cX7_init 49 = .ok (.dup, 1) := by decide +kernel
theorem dX7_init_50 : decode cX7_init 50 = .ok (.iconst 5, 1) := by decide +kernel
theorem dX7_init_51 : decode cX7_init 51 = .ok (.ldc 25, 2) := by decide +kernel
theorem dX7_init_53 : decode cX7_init 53 = .ok (.invokestatic 11, 3) := by decide +kernel
theorem dX7_init_56 : decode cX7_init 56 = .ok (.iastore, 1) := by decide +kernel
theorem dX7_init_57 : decode cX7_init 57 = .ok (.dup, 1) := by decide +kernel
theorem dX7_init_58 : decode cX7_init 58 = .ok (.bipush 6, 2) := by decide +kernel
theorem dX7_init_60 : decode cX7_init 60 = .ok (.ldc 27, 2) := by decide +kernel
theorem dX7_init_62 : decode cX7_init 62 = .ok (.invokestatic 11, 3) := by decide +kernel
theorem dX7_init_65 : decode cX7_init 65 = .ok (.iastore, 1) := by decide +kernel
theorem dX7_init_66 : decode cX7_init 66 = .ok (.dup, 1) := by decide +kernel
theorem dX7_init_67 : decode cX7_init 67 = .ok (.bipush 7, 2) := by decide +kernel
theorem dX7_init_69 : decode cX7_init 69 = .ok (.ldc 29, 2) := by decide +kernel
theorem dX7_init_71 : decode cX7_init 71 = .ok (.invokestatic 11, 3) := by decide +kernel
theorem dX7_init_74 : decode cX7_init 74 = .ok (.iastore, 1) := by decide +kernel
theorem dX7_init_75 : decode cX7_init 75 = .ok (.dup, 1) := by decide +kernel
theorem dX7_init_76 : decode cX7_init 76 = .ok (.bipush 8, 2) := by decide +kernel
theorem dX7_init_78 : decode cX7_init 78 = .ok (.ldc 31, 2) := by decide +kernel
theorem dX7_init_80 : decode cX7_init 80 = .ok (.invokestatic 11, 3) := by decide +kernel
theorem dX7_init_83 : decode cX7_init 83 = .ok (.iastore, 1) := by decide +kernel
theorem dX7_init_84 : decode cX7_init 84 = .ok (.dup, 1) := by decide +kernel
theorem dX7_init_85 : decode cX7_init 85 = .ok (.bipush 9, 2) := by decide +kernel
theorem dX7_init_87 : decode cX7_init 87 = .ok (.ldc 33, 2) := by decide +kernel
theorem dX7_init_89 : decode cX7_init 89 = .ok (.invokestatic 11, 3) := by decide +kernel
theorem dX7_init_92 : decode cX7_init 92 = .ok (.iastore, 1) := by decide +kernel
theorem dX7_init_93 : decode cX7_init 93 = .ok (.dup, 1) := by decide +kernel
theorem dX7_init_94 : decode cX7_init 94 = .ok (.bipush 10, 2) := by decide +kernel
theorem dX7_init_96 : decode cX7_init 96 = .ok (.ldc 35, 2) := by decide +kernel
theorem dX7_init_98 : decode cX7_init 98 = .ok (.invokestatic 11, 3) := by decide +kernel
theorem dX7_init_101 : decode cX7_init 101 = .ok (.iastore, 1) := by decide +kernel
theorem dX7_init_102 : decode cX7_init 102 = .ok (.putfield 37, 3) := by decide +kernel
theorem dX7_init_105 : decode cX7_init 105 = .ok (.aload_n 0, 1) := by decide +kernel
theorem dX7_init_106 : decode cX7_init 106 = .ok (.iconst 0, 1) := by decide +kernel
theorem dX7_init_107 : decode cX7_init 107 = .ok (.newarray .int, 2) := by decide +kernel
theorem dX7_init_109 : decode cX7_init 109 = .ok (.putfield 41, 3) := by decide +kernel
theorem dX7_init_112 : decode cX7_init 112 = .ok (.return_, 1) := by decide +kernel
theorem dX7_spell_0 : decode cX7_spell 0 = .ok (.iconst 0, 1) := by decide +kernel
theorem dX7_spell_1 : decode cX7_spell 1 = .ok (.istore_n 1, 1) := by decide +kernel
theorem dX7_spell_2 : decode cX7_spell 2 = .ok (.iconst 0, 1) := by decide +kernel
theorem dX7_spell_3 : decode cX7_spell 3 = .ok (.istore_n 2, 1) := by decide +kernel
theorem dX7_spell_4 : decode cX7_spell 4 = .ok (.iload_n 2, 1) := by decide +kernel
theorem dX7_spell_5 : decode cX7_spell 5 = .ok (.bipush 6, 2) := by decide +kernel
theorem dX7_spell_7 : decode cX7_spell 7 = .ok (.if_icmp .ge 37, 3) := by decide +kernel
theorem dX7_spell_10 : decode cX7_spell 10 = .ok (.iload_n 1, 1) := by decide +kernel
theorem dX7_spell_11 : decode cX7_spell 11 = .ok (.bipush 27, 2) := by decide +kernel
theorem dX7_spell_13 : decode cX7_spell 13 = .ok (.imul, 1) := by decide +kernel
theorem dX7_spell_14 : decode cX7_spell 14 = .ok (.iload_n 2, 1) := by decide +kernel
theorem dX7_spell_15 : decode cX7_spell 15 = .ok (.aload_n 0, 1) := by decide +kernel
theorem dX7_spell_16 : decode cX7_spell 16 = .ok (.invokevirtual 44, 3) := by decide +kernel
theorem dX7_spell_19 : decode cX7_spell 19 = .ok (.if_icmp .ge 16, 3) := by decide +kernel
theorem dX7_spell_22 : decode cX7_spell 22 = .ok (.aload_n 0, 1) := by decide +kernel
theorem dX7_spell_23 : decode cX7_spell 23 = .ok (.iload_n 2, 1) := by decide +kernel
theorem dX7_spell_24 : decode cX7_spell 24 = .ok (.invokevirtual 50, 3) := by decide +kernel
theorem dX7_spell_27 : decode cX7_spell 27 = .ok (.bipush 97, 2) := by decide +kernel
theorem dX7_spell_29 : decode cX7_spell 29 = .ok (.isub, 1) := by decide +kernel
theorem dX7_spell_30 : decode cX7_spell 30 = .ok (.iconst 1, 1) := by decide +kernel
theorem dX7_spell_31 : decode cX7_spell 31 = .ok (.iadd, 1) := by decide +kernel
theorem dX7_spell_32 : decode cX7_spell 32 = .ok (.goto 4, 3) := by decide +kernel
theorem dX7_spell_35 : decode cX7_spell 35 = .ok (.iconst 0, 1) := by decide +kernel
theorem dX7_spell_36 : decode cX7_spell 36 = .ok (.iadd, 1) := by decide +kernel
theorem dX7_spell_37 : decode cX7_spell 37 = .ok (.istore_n 1, 1) := by decide +kernel
theorem dX7_spell_38 : decode cX7_spell 38 = .ok (.iinc 2 1, 3) := by decide +kernel
theorem dX7_spell_41 : decode cX7_spell 41 = .ok (.goto (-37), 3) := by decide +kernel
theorem dX7_spell_44 : decode cX7_spell 44 = .ok (.iload_n 1, 1) := by decide +kernel
theorem dX7_spell_45 : decode cX7_spell 45 = .ok (.ireturn, 1) := by decide +kernel
theorem dX7_begin_0 : decode cX7_begin 0 = .ok (.aload_n 0, 1) := by decide +kernel
theorem dX7_begin_1 : decode cX7_begin 1 = .ok (.aload_n 1, 1) := by decide +kernel
theorem dX7_begin_2 : decode cX7_begin 2 = .ok (.getfield 54, 3) := by decide +kernel
theorem dX7_begin_5 : decode cX7_begin 5 = .ok (.putfield 41, 3) := by decide +kernel
theorem dX7_begin_8 : decode cX7_begin 8 = .ok (.aload_n 0, 1) := by decide +kernel
theorem dX7_begin_9 : decode cX7_begin 9 = .ok (.iconst 0, 1) := by decide +kernel
theorem dX7_begin_10 : decode cX7_begin 10 = .ok (.aload_n 1, 1) := by decide +kernel
theorem dX7_begin_11 : decode cX7_begin 11 = .ok (.getfield 59, 3) := by decide +kernel
theorem dX7_begin_14 : decode cX7_begin 14 = .ok (.aload_n 0, 1) := by decide +kernel
theorem dX7_begin_15 : decode cX7_begin 15 = .ok (.getfield 41, 3) := by decide +kernel
theorem dX7_begin_18 : decode cX7_begin 18 = .ok (.arraylength, 1) := by decide +kernel
theorem dX7_begin_19 : decode cX7_begin 19 = .ok (.invokestatic 62, 3) := by decide +kernel
theorem dX7_begin_22 : decode cX7_begin 22 = .ok (.invokestatic 68, 3) := by decide +kernel
theorem dX7_begin_25 : decode cX7_begin 25 = .ok (.putfield 71, 3) := by decide +kernel
theorem dX7_begin_28 : decode cX7_begin 28 = .ok (.aload_n 0, 1) := by decide +kernel
theorem dX7_begin_29 : decode cX7_begin 29 = .ok (.iconst 0, 1) := by decide +kernel
theorem dX7_begin_30 : decode cX7_begin 30 = .ok (.putfield 72, 3) := by decide +kernel
theorem dX7_begin_33 : decode cX7_begin 33 = .ok (.aload_n 0, 1) := by decide +kernel
theorem dX7_begin_34 : decode cX7_begin 34 = .ok (.iconst 0, 1) := by decide +kernel
theorem dX7_begin_35 : decode cX7_begin 35 = .ok (.putfield 75, 3) := by decide +kernel
theorem dX7_begin_38 : decode cX7_begin 38 = .ok (.aload_n 0, 1) := by decide +kernel
theorem dX7_begin_39 : decode cX7_begin 39 = .ok (.invokevirtual 78, 3) := by decide +kernel
theorem dX7_begin_42 : decode cX7_begin 42 = .ok (.return_, 1) := by decide +kernel
theorem dX7_step_0 : decode cX7_step 0 = .ok (.aload_n 0, 1) := by decide +kernel
theorem dX7_step_1 : decode cX7_step 1 = .ok (.getfield 75, 3) := by decide +kernel
theorem dX7_step_4 : decode cX7_step 4 = .ok (.iconst 1, 1) := by decide +kernel
theorem dX7_step_5 : decode cX7_step 5 = .ok (.if_icmp .eq 11, 3) := by decide +kernel
theorem dX7_step_8 : decode cX7_step 8 = .ok (.aload_n 0, 1) := by decide +kernel
theorem dX7_step_9 : decode cX7_step 9 = .ok (.getfield 75, 3) := by decide +kernel
theorem dX7_step_12 : decode cX7_step 12 = .ok (.iconst 2, 1) := by decide +kernel
theorem dX7_step_13 : decode cX7_step 13 = .ok (.if_icmp .ne 7, 3) := by decide +kernel
theorem dX7_step_16 : decode cX7_step 16 = .ok (.iconst 1, 1) := by decide +kernel
theorem dX7_step_17 : decode cX7_step 17 = .ok (.goto 4, 3) := by decide +kernel
theorem dX7_step_20 : decode cX7_step 20 = .ok (.iconst 0, 1) := by decide +kernel
theorem dX7_step_21 : decode cX7_step 21 = .ok (.istore_n 1, 1) := by decide +kernel
theorem dX7_step_22 : decode cX7_step 22 = .ok (.aload_n 0, 1) := by decide +kernel
theorem dX7_step_23 : decode cX7_step 23 = .ok (.getfield 72, 3) := by decide +kernel
theorem dX7_step_26 : decode cX7_step 26 = .ok (.istore_n 2, 1) := by decide +kernel
theorem dX7_step_27 : decode cX7_step 27 = .ok (.aload_n 0, 1) := by decide +kernel
theorem dX7_step_28 : decode cX7_step 28 = .ok (.getfield 72, 3) := by decide +kernel
theorem dX7_step_31 : decode cX7_step 31 = .ok (.ifCond .lt 55, 3) := by decide +kernel
theorem dX7_step_34 : decode cX7_step 34 = .ok (.aload_n 0, 1) := by decide +kernel
theorem dX7_step_35 : decode cX7_step 35 = .ok (.getfield 72, 3) := by decide +kernel
theorem dX7_step_38 : decode cX7_step 38 = .ok (.aload_n 0, 1) := by decide +kernel
theorem dX7_step_39 : decode cX7_step 39 = .ok (.getfield 71, 3) := by decide +kernel
theorem dX7_step_42 : decode cX7_step 42 = .ok (.if_icmp .ge 44, 3) := by decide +kernel
theorem dX7_step_45 : decode cX7_step 45 = .ok (.aload_n 0, 1) := by decide +kernel
theorem dX7_step_46 : decode cX7_step 46 = .ok (.getfield 41, 3) := by decide +kernel
theorem dX7_step_49 : decode cX7_step 49 = .ok (.aload_n 0, 1) := by decide +kernel
theorem dX7_step_50 : decode cX7_step 50 = .ok (.getfield 72, 3) := by decide +kernel
theorem dX7_step_53 : decode cX7_step 53 = .ok (.iaload, 1) := by decide +kernel
theorem dX7_step_54 : decode cX7_step 54 = .ok (.bipush 32, 2) := by decide +kernel
theorem dX7_step_56 : decode cX7_step 56 = .ok (.if_icmp .eq 17, 3) := by decide +kernel
theorem dX7_step_59 : decode cX7_step 59 = .ok (.aload_n 0, 1) := by decide +kernel
theorem dX7_step_60 : decode cX7_step 60 = .ok (.getfield 41, 3) := by decide +kernel
theorem dX7_step_63 : decode cX7_step 63 = .ok (.aload_n 0, 1) := by decide +kernel
theorem dX7_step_64 : decode cX7_step 64 = .ok (.getfield 72, 3) := by decide +kernel
theorem dX7_step_67 : decode cX7_step 67 = .ok (.iaload, 1) := by decide +kernel
theorem dX7_step_68 : decode cX7_step 68 = .ok (.bipush 10, 2) := by decide +kernel
theorem dX7_step_70 : decode cX7_step 70 = .ok (.if_icmp .ne 16, 3) := by decide +kernel
theorem dX7_step_73 : decode cX7_step 73 = .ok (.aload_n 0, 1) := by decide +kernel
theorem dX7_step_74 : decode cX7_step 74 = .ok (.dup, 1) := by decide +kernel
theorem dX7_step_75 : decode cX7_step 75 = .ok (.getfield 72, 3) := by decide +kernel
theorem dX7_step_78 : decode cX7_step 78 = .ok (.iconst 1, 1) := by decide +kernel
theorem dX7_step_79 : decode cX7_step 79 = .ok (.iadd, 1) := by decide +kernel
theorem dX7_step_80 : decode cX7_step 80 = .ok (.putfield 72, 3) := by decide +kernel
theorem dX7_step_83 : decode cX7_step 83 = .ok (.goto (-56), 3) := by decide +kernel
theorem dX7_step_86 : decode cX7_step 86 = .ok (.aload_n 0, 1) := by decide +kernel
theorem dX7_step_87 : decode cX7_step 87 = .ok (.aload_n 0, 1) := by decide +kernel
theorem dX7_step_88 : decode cX7_step 88 = .ok (.getfield 72, 3) := by decide +kernel
theorem dX7_step_91 : decode cX7_step 91 = .ok (.putfield 81, 3) := by decide +kernel
theorem dX7_step_94 : decode cX7_step 94 = .ok (.aload_n 0, 1) := by decide +kernel
theorem dX7_step_95 : decode cX7_step 95 = .ok (.aload_n 0, 1) := by decide +kernel
theorem dX7_step_96 : decode cX7_step 96 = .ok (.getfield 72, 3) := by decide +kernel
theorem dX7_step_99 : decode cX7_step 99 = .ok (.putfield 84, 3) := by decide +kernel
theorem dX7_step_102 : decode cX7_step 102 = .ok (.aload_n 0, 1) := by decide +kernel
theorem dX7_step_103 : decode cX7_step 103 = .ok (.iconst (-1), 1) := by decide +kernel
theorem dX7_step_104 : decode cX7_step 104 = .ok (.putfield 87, 3) := by decide +kernel
theorem dX7_step_107 : decode cX7_step 107 = .ok (.aload_n 0, 1) := by decide +kernel
theorem dX7_step_108 : decode cX7_step 108 = .ok (.iconst 0, 1) := by decide +kernel
theorem dX7_step_109 : decode cX7_step 109 = .ok (.putfield 90, 3) := by decide +kernel
theorem dX7_step_112 : decode cX7_step 112 = .ok (.aload_n 0, 1) := by decide +kernel
theorem dX7_step_113 : decode cX7_step 113 = .ok (.getfield 72, 3) := by decide +kernel
theorem dX7_step_116 : decode cX7_step 116 = .ok (.ifCond .lt 14, 3) := by decide +kernel
theorem dX7_step_119 : decode cX7_step 119 = .ok (.aload_n 0, 1) := by decide +kernel
theorem dX7_step_120 : decode cX7_step 120 = .ok (.getfield 72, 3) := by decide +kernel
theorem dX7_step_123 : decode cX7_step 123 = .ok (.aload_n 0, 1) := by decide +kernel
theorem dX7_step_124 : decode cX7_step 124 = .ok (.getfield 71, 3) := by decide +kernel
theorem dX7_step_127 : decode cX7_step 127 = .ok (.if_icmp .lt 9, 3) := by decide +kernel
theorem dX7_step_130 : decode cX7_step 130 = .ok (.aload_n 0, 1) := by decide +kernel
theorem dX7_step_131 : decode cX7_step 131 = .ok (.iconst 0, 1) := by decide +kernel
theorem dX7_step_132 : decode cX7_step 132 = .ok (.putfield 75, 3) := by decide +kernel
theorem dX7_step_135 : decode cX7_step 135 = .ok (.return_, 1) := by decide +kernel
theorem dX7_step_136 : decode cX7_step 136 = .ok (.aload_n 0, 1) := by decide +kernel
theorem dX7_step_137 : decode cX7_step 137 = .ok (.getfield 41, 3) := by decide +kernel
theorem dX7_step_140 : decode cX7_step 140 = .ok (.aload_n 0, 1) := by decide +kernel
theorem dX7_step_141 : decode cX7_step 141 = .ok (.getfield 72, 3) := by decide +kernel
theorem dX7_step_144 : decode cX7_step 144 = .ok (.iaload, 1) := by decide +kernel
theorem dX7_step_145 : decode cX7_step 145 = .ok (.istore_n 3, 1) := by decide +kernel
theorem dX7_step_146 : decode cX7_step 146 = .ok (.iload_n 3, 1) := by decide +kernel
theorem dX7_step_147 : decode cX7_step 147 = .ok (.bipush 97, 2) := by decide +kernel
theorem dX7_step_149 : decode cX7_step 149 = .ok (.if_icmp .lt 13, 3) := by decide +kernel
theorem dX7_step_152 : decode cX7_step 152 = .ok (.iload_n 3, 1) := by decide +kernel
theorem dX7_step_153 : decode cX7_step 153 = .ok (.bipush 122, 2) := by decide +kernel
theorem dX7_step_155 : decode cX7_step 155 = .ok (.if_icmp .gt 7, 3) := by decide +kernel
theorem dX7_step_158 : decode cX7_step 158 = .ok (.iconst 1, 1) := by decide +kernel
theorem dX7_step_159 : decode cX7_step 159 = .ok (.goto 4, 3) := by decide +kernel
theorem dX7_step_162 : decode cX7_step 162 = .ok (.iconst 0, 1) := by decide +kernel
theorem dX7_step_163 : decode cX7_step 163 = .ok (.istore 4, 2) := by decide +kernel
theorem dX7_step_165 : decode cX7_step 165 = .ok (.iload_n 3, 1) := by decide +kernel
theorem dX7_step_166 : decode cX7_step 166 = .ok (.bipush 48, 2) := by decide +kernel
theorem dX7_step_168 : decode cX7_step 168 = .ok (.if_icmp .lt 13, 3) := by decide +kernel
