section
theorem dX10_measure_314 : decode cX10_measure 314 = .ok (.lor, 1) := by decide +kernel
theorem dX10_measure_315 : decode cX10_measure 315 = .ok (.lstore 11, 2) := by decide +kernel
theorem dX10_measure_317 : decode cX10_measure 317 = .ok (.aload_n 0, 1) := by decide +kernel
theorem dX10_measure_318 : decode cX10_measure 318 = .ok (.getfield 21, 3) := by decide +kernel
theorem dX10_measure_321 : decode cX10_measure 321 = .ok (.iload 4, 2) := by decide +kernel
theorem dX10_measure_323 : decode cX10_measure 323 = .ok (.aload_n 0, 1) := by decide +kernel
theorem dX10_measure_324 : decode cX10_measure 324 = .ok (.getfield 128, 3) := by decide +kernel
theorem dX10_measure_327 : decode cX10_measure 327 = .ok (.i2l, 1) := by decide +kernel
theorem dX10_measure_328 : decode cX10_measure 328 = .ok (.bipush 40, 2) := by decide +kernel
theorem dX10_measure_330 : decode cX10_measure 330 = .ok (.lshl, 1) := by decide +kernel
theorem dX10_measure_331 : decode cX10_measure 331 = .ok (.lload 11, 2) := by decide +kernel
theorem dX10_measure_333 : decode cX10_measure 333 = .ok (.lor, 1) := by decide +kernel
theorem dX10_measure_334 : decode cX10_measure 334 = .ok (.lastore, 1) := by decide +kernel
theorem dX10_measure_335 : decode cX10_measure 335 = .ok (.aload_n 0, 1) := by decide +kernel
theorem dX10_measure_336 : decode cX10_measure 336 = .ok (.getfield 21, 3) := by decide +kernel
theorem dX10_measure_339 : decode cX10_measure 339 = .ok (.iload 4, 2) := by decide +kernel
theorem dX10_measure_341 : decode cX10_measure 341 = .ok (.laload, 1) := by decide +kernel
theorem dX10_measure_342 : decode cX10_measure 342 = .ok (.lreturn, 1) := by decide +kernel
theorem dX10_nodesIn_0 : decode cX10_nodesIn 0 = .ok (.lload_n 0, 1) := by decide +kernel
theorem dX10_nodesIn_1 : decode cX10_nodesIn 1 = .ok (.ldc2_w 173, 3) := by decide +kernel
theorem dX10_nodesIn_4 : decode cX10_nodesIn 4 = .ok (.land, 1) := by decide +kernel
theorem dX10_nodesIn_5 : decode cX10_nodesIn 5 = .ok (.l2i, 1) := by decide +kernel
theorem dX10_nodesIn_6 : decode cX10_nodesIn 6 = .ok (.ireturn, 1) := by decide +kernel
theorem dX10_testsIn_0 : decode cX10_testsIn 0 = .ok (.lload_n 0, 1) := by decide +kernel
theorem dX10_testsIn_1 : decode cX10_testsIn 1 = .ok (.bipush 20, 2) := by decide +kernel
theorem dX10_testsIn_3 : decode cX10_testsIn 3 = .ok (.lushr, 1) := by decide +kernel
theorem dX10_testsIn_4 : decode cX10_testsIn 4 = .ok (.ldc2_w 175, 3) := by decide +kernel
theorem dX10_testsIn_7 : decode cX10_testsIn 7 = .ok (.land, 1) := by decide +kernel
theorem dX10_testsIn_8 : decode cX10_testsIn 8 = .ok (.l2i, 1) := by decide +kernel
theorem dX10_testsIn_9 : decode cX10_testsIn 9 = .ok (.ireturn, 1) := by decide +kernel
theorem dX10_longestIn_0 : decode cX10_longestIn 0 = .ok (.lload_n 0, 1) := by decide +kernel
theorem dX10_longestIn_1 : decode cX10_longestIn 1 = .ok (.bipush 37, 2) := by decide +kernel
theorem dX10_longestIn_3 : decode cX10_longestIn 3 = .ok (.lushr, 1) := by decide +kernel
theorem dX10_longestIn_4 : decode cX10_longestIn 4 = .ok (.ldc2_w 177, 3) := by decide +kernel
theorem dX10_longestIn_7 : decode cX10_longestIn 7 = .ok (.land, 1) := by decide +kernel
theorem dX10_longestIn_8 : decode cX10_longestIn 8 = .ok (.l2i, 1) := by decide +kernel
theorem dX10_longestIn_9 : decode cX10_longestIn 9 = .ok (.ireturn, 1) := by decide +kernel
theorem dX10_firstColumn_0 : decode cX10_firstColumn 0 = .ok (.aload_n 0, 1) := by decide +kernel
theorem dX10_firstColumn_1 : decode cX10_firstColumn 1 = .ok (.aload_n 1, 1) := by decide +kernel
theorem dX10_firstColumn_2 : decode cX10_firstColumn 2 = .ok (.putfield 33, 3) := by decide +kernel
theorem dX10_firstColumn_5 : decode cX10_firstColumn 5 = .ok (.aload_n 0, 1) := by decide +kernel
theorem dX10_firstColumn_6 : decode cX10_firstColumn 6 = .ok (.iload_n 2, 1) := by decide +kernel
theorem dX10_firstColumn_7 : decode cX10_firstColumn 7 = .ok (.putfield 80, 3) := by decide +kernel
theorem dX10_firstColumn_10 : decode cX10_firstColumn 10 = .ok (.aload_n 0, 1) := by decide +kernel
theorem dX10_firstColumn_11 : decode cX10_firstColumn 11 = .ok (.getfield 33, 3) := by decide +kernel
theorem dX10_firstColumn_14 : decode cX10_firstColumn 14 = .ok (.invokevirtual 134, 3) := by decide +kernel
theorem dX10_firstColumn_17 : decode cX10_firstColumn 17 = .ok (.istore_n 3, 1) := by decide +kernel
theorem dX10_firstColumn_18 : decode cX10_firstColumn 18 = .ok (.iconst 0, 1) := by decide +kernel
theorem dX10_firstColumn_19 : decode cX10_firstColumn 19 = .ok (.istore 4, 2) := by decide +kernel
theorem dX10_firstColumn_21 : decode cX10_firstColumn 21 = .ok (.iload 4, 2) := by decide +kernel
theorem dX10_firstColumn_23 : decode cX10_firstColumn 23 = .ok (.bipush 12, 2) := by decide +kernel
theorem dX10_firstColumn_25 : decode cX10_firstColumn 25 = .ok (.if_icmp .gt 67, 3) := by decide +kernel
theorem dX10_firstColumn_28 : decode cX10_firstColumn 28 = .ok (.aload_n 0, 1) := by decide +kernel
theorem dX10_firstColumn_29 : decode cX10_firstColumn 29 = .ok (.iload_n 3, 1) := by decide +kernel
theorem dX10_firstColumn_30 : decode cX10_firstColumn 30 = .ok (.aload_n 0, 1) := by decide +kernel
theorem dX10_firstColumn_31 : decode cX10_firstColumn 31 = .ok (.invokevirtual 138, 3) := by decide +kernel
theorem dX10_firstColumn_34 : decode cX10_firstColumn 34 = .ok (.invokevirtual 145, 3) := by decide +kernel
theorem dX10_firstColumn_37 : decode cX10_firstColumn 37 = .ok (.istore 5, 2) := by decide +kernel
theorem dX10_firstColumn_39 : decode cX10_firstColumn 39 = .ok (.aload_n 0, 1) := by decide +kernel
theorem dX10_firstColumn_40 : decode cX10_firstColumn 40 = .ok (.getfield 33, 3) := by decide +kernel
theorem dX10_firstColumn_43 : decode cX10_firstColumn 43 = .ok (.iload_n 3, 1) := by decide +kernel
theorem dX10_firstColumn_44 : decode cX10_firstColumn 44 = .ok (.invokevirtual 64, 3) := by decide +kernel
theorem dX10_firstColumn_47 : decode cX10_firstColumn 47 = .ok (.istore 6, 2) := by decide +kernel
theorem dX10_firstColumn_49 : decode cX10_firstColumn 49 = .ok (.iload 5, 2) := by decide +kernel
theorem dX10_firstColumn_51 : decode cX10_firstColumn 51 = .ok (.iconst (-1), 1) := by decide +kernel
theorem dX10_firstColumn_52 : decode cX10_firstColumn 52 = .ok (.if_icmp .ne 22, 3) := by decide +kernel
theorem dX10_firstColumn_55 : decode cX10_firstColumn 55 = .ok (.iload 6, 2) := by decide +kernel
theorem dX10_firstColumn_57 : decode cX10_firstColumn 57 = .ok (.iconst (-1), 1) := by decide +kernel
theorem dX10_firstColumn_58 : decode cX10_firstColumn 58 = .ok (.if_icmp .eq 16, 3) := by decide +kernel
theorem dX10_firstColumn_61 : decode cX10_firstColumn 61 = .ok (.aload_n 0, 1) := by decide +kernel
theorem dX10_firstColumn_62 : decode cX10_firstColumn 62 = .ok (.getfield 29, 3) := by decide +kernel
theorem dX10_firstColumn_65 : decode cX10_firstColumn 65 = .ok (.iload 6, 2) := by decide +kernel
theorem dX10_firstColumn_67 : decode cX10_firstColumn 67 = .ok (.invokevirtual 148, 3) := by decide +kernel
theorem dX10_firstColumn_70 : decode cX10_firstColumn 70 = .ok (.iconst (-1), 1) := by decide +kernel
theorem dX10_firstColumn_71 : decode cX10_firstColumn 71 = .ok (.if_icmp .ne 6, 3) := by decide +kernel
theorem dX10_firstColumn_74 : decode cX10_firstColumn 74 = .ok (.iload 5, 2) := by decide +kernel
theorem dX10_firstColumn_76 : decode cX10_firstColumn 76 = .ok (.ireturn, 1) := by decide +kernel
theorem dX10_firstColumn_77 : decode cX10_firstColumn 77 = .ok (.iload_n 3, 1) := by decide +kernel
theorem dX10_firstColumn_78 : decode cX10_firstColumn 78 = .ok (.iconst 1, 1) := by decide +kernel
theorem dX10_firstColumn_79 : decode cX10_firstColumn 79 = .ok (.iload 6, 2) := by decide +kernel
theorem dX10_firstColumn_81 : decode cX10_firstColumn 81 = .ok (.ishl, 1) := by decide +kernel
theorem dX10_firstColumn_82 : decode cX10_firstColumn 82 = .ok (.iconst (-1), 1) := by decide +kernel
theorem dX10_firstColumn_83 : decode cX10_firstColumn 83 = .ok (.ixor, 1) := by decide +kernel
theorem dX10_firstColumn_84 : decode cX10_firstColumn 84 = .ok (.iand, 1) := by decide +kernel
theorem dX10_firstColumn_85 : decode cX10_firstColumn 85 = .ok (.istore_n 3, 1) := by decide +kernel
theorem dX10_firstColumn_86 : decode cX10_firstColumn 86 = .ok (.iinc 4 1, 3) := by decide +kernel
theorem dX10_firstColumn_89 : decode cX10_firstColumn 89 = .ok (.goto (-68), 3) := by decide +kernel
theorem dX10_firstColumn_92 : decode cX10_firstColumn 92 = .ok (.iconst (-1), 1) := by decide +kernel
theorem dX10_firstColumn_93 : decode cX10_firstColumn 93 = .ok (.ireturn, 1) := by decide +kernel
theorem dX10_columnsAsked_0 : decode cX10_columnsAsked 0 = .ok (.aload_n 0, 1) := by decide +kernel
theorem dX10_columnsAsked_1 : decode cX10_columnsAsked 1 = .ok (.aload_n 1, 1) := by decide +kernel
theorem dX10_columnsAsked_2 : decode cX10_columnsAsked 2 = .ok (.putfield 33, 3) := by decide +kernel
theorem dX10_columnsAsked_5 : decode cX10_columnsAsked 5 = .ok (.aload_n 0, 1) := by decide +kernel
theorem dX10_columnsAsked_6 : decode cX10_columnsAsked 6 = .ok (.aload_n 1, 1) := by decide +kernel
theorem dX10_columnsAsked_7 : decode cX10_columnsAsked 7 = .ok (.getfield 179, 3) := by decide +kernel
theorem dX10_columnsAsked_10 : decode cX10_columnsAsked 10 = .ok (.putfield 80, 3) := by decide +kernel
theorem dX10_columnsAsked_13 : decode cX10_columnsAsked 13 = .ok (.aload_n 0, 1) := by decide +kernel
theorem dX10_columnsAsked_14 : decode cX10_columnsAsked 14 = .ok (.getfield 33, 3) := by decide +kernel
theorem dX10_columnsAsked_17 : decode cX10_columnsAsked 17 = .ok (.invokevirtual 134, 3) := by decide +kernel
theorem dX10_columnsAsked_20 : decode cX10_columnsAsked 20 = .ok (.istore_n 3, 1) := by decide +kernel
theorem dX10_columnsAsked_21 : decode cX10_columnsAsked 21 = .ok (.aload_n 0, 1) := by decide +kernel
theorem dX10_columnsAsked_22 : decode cX10_columnsAsked 22 = .ok (.invokevirtual 138, 3) := by decide +kernel
theorem dX10_columnsAsked_25 : decode cX10_columnsAsked 25 = .ok (.istore 4, 2) := by decide +kernel
theorem dX10_columnsAsked_27 : decode cX10_columnsAsked 27 = .ok (.iconst 0, 1) := by decide +kernel
theorem dX10_columnsAsked_28 : decode cX10_columnsAsked 28 = .ok (.istore 5, 2) := by decide +kernel
theorem dX10_columnsAsked_30 : decode cX10_columnsAsked 30 = .ok (.iconst 0, 1) := by decide +kernel
theorem dX10_columnsAsked_31 : decode cX10_columnsAsked 31 = .ok (.istore 6, 2) := by decide +kernel
theorem dX10_columnsAsked_33 : decode cX10_columnsAsked 33 = .ok (.iload 6, 2) := by decide +kernel
theorem dX10_columnsAsked_35 : decode cX10_columnsAsked 35 = .ok (.bipush 20, 2) := by decide +kernel
theorem dX10_columnsAsked_37 : decode cX10_columnsAsked 37 = .ok (.if_icmp .gt 127, 3) := by decide +kernel
theorem dX10_columnsAsked_40 : decode cX10_columnsAsked 40 = .ok (.iload_n 3, 1) := by decide +kernel
theorem dX10_columnsAsked_41 : decode cX10_columnsAsked 41 = .ok (.ifCond .eq 123, 3) := by decide +kernel
theorem dX10_columnsAsked_44 : decode cX10_columnsAsked 44 = .ok (.aload_n 0, 1) := by decide +kernel
theorem dX10_columnsAsked_45 : decode cX10_columnsAsked 45 = .ok (.iload_n 3, 1) := by decide +kernel
theorem dX10_columnsAsked_46 : decode cX10_columnsAsked 46 = .ok (.iload 4, 2) := by decide +kernel
theorem dX10_columnsAsked_48 : decode cX10_columnsAsked 48 = .ok (.invokevirtual 145, 3) := by decide +kernel
theorem dX10_columnsAsked_51 : decode cX10_columnsAsked 51 = .ok (.istore 7, 2) := by decide +kernel
theorem dX10_columnsAsked_53 : decode cX10_columnsAsked 53 = .ok (.iload 7, 2) := by decide +kernel
theorem dX10_columnsAsked_55 : decode cX10_columnsAsked 55 = .ok (.iconst (-1), 1) := by decide +kernel
theorem dX10_columnsAsked_56 : decode cX10_columnsAsked 56 = .ok (.if_icmp .eq 42, 3) := by decide +kernel
theorem dX10_columnsAsked_59 : decode cX10_columnsAsked 59 = .ok (.iinc 5 1, 3) := by decide +kernel
theorem dX10_columnsAsked_62 : decode cX10_columnsAsked 62 = .ok (.iload_n 3, 1) := by decide +kernel
theorem dX10_columnsAsked_63 : decode cX10_columnsAsked 63 = .ok (.aload_n 0, 1) := by decide +kernel
theorem dX10_columnsAsked_64 : decode cX10_columnsAsked 64 = .ok (.getfield 29, 3) := by decide +kernel
theorem dX10_columnsAsked_67 : decode cX10_columnsAsked 67 = .ok (.iload 7, 2) := by decide +kernel
theorem dX10_columnsAsked_69 : decode cX10_columnsAsked 69 = .ok (.aload_n 0, 1) := by decide +kernel
theorem dX10_columnsAsked_70 : decode cX10_columnsAsked 70 = .ok (.getfield 29, 3) := by decide +kernel
theorem dX10_columnsAsked_73 : decode cX10_columnsAsked 73 = .ok (.iload_n 2, 1) := by decide +kernel
theorem dX10_columnsAsked_74 : decode cX10_columnsAsked 74 = .ok (.iload 7, 2) := by decide +kernel
theorem dX10_columnsAsked_76 : decode cX10_columnsAsked 76 = .ok (.invokevirtual 180, 3) := by decide +kernel
theorem dX10_columnsAsked_79 : decode cX10_columnsAsked 79 = .ok (.invokevirtual 56, 3) := by decide +kernel
theorem dX10_columnsAsked_82 : decode cX10_columnsAsked 82 = .ok (.iand, 1) := by decide +kernel
theorem dX10_columnsAsked_83 : decode cX10_columnsAsked 83 = .ok (.istore_n 3, 1) := by decide +kernel
theorem dX10_columnsAsked_84 : decode cX10_columnsAsked 84 = .ok (.iload 4, 2) := by decide +kernel
theorem dX10_columnsAsked_86 : decode cX10_columnsAsked 86 = .ok (.iconst 1, 1) := by decide +kernel
theorem dX10_columnsAsked_87 : decode cX10_columnsAsked 87 = .ok (.iload 7, 2) := by decide +kernel
theorem dX10_columnsAsked_89 : decode cX10_columnsAsked 89 = .ok (.ishl, 1) := by decide +kernel
theorem dX10_columnsAsked_90 : decode cX10_columnsAsked 90 = .ok (.iconst (-1), 1) := by decide +kernel
theorem dX10_columnsAsked_91 : decode cX10_columnsAsked 91 = .ok (.ixor, 1) := by decide +kernel
theorem dX10_columnsAsked_92 : decode cX10_columnsAsked 92 = .ok (.iand, 1) := by decide +kernel
theorem dX10_columnsAsked_93 : decode cX10_columnsAsked 93 = .ok (.istore 4, 2) := by decide +kernel
theorem dX10_columnsAsked_95 : decode cX10_columnsAsked 95 = .ok (.goto 63, 3) := by decide +kernel
theorem dX10_columnsAsked_98 : decode cX10_columnsAsked 98 = .ok (.aload_n 0, 1) := by decide +kernel
theorem dX10_columnsAsked_99 : decode cX10_columnsAsked 99 = .ok (.getfield 33, 3) := by decide +kernel
theorem dX10_columnsAsked_102 : decode cX10_columnsAsked 102 = .ok (.iload_n 3, 1) := by decide +kernel
theorem dX10_columnsAsked_103 : decode cX10_columnsAsked 103 = .ok (.invokevirtual 64, 3) := by decide +kernel
theorem dX10_columnsAsked_106 : decode cX10_columnsAsked 106 = .ok (.istore 8, 2) := by decide +kernel
theorem dX10_columnsAsked_108 : decode cX10_columnsAsked 108 = .ok (.aload_n 0, 1) := by decide +kernel
theorem dX10_columnsAsked_109 : decode cX10_columnsAsked 109 = .ok (.getfield 29, 3) := by decide +kernel
theorem dX10_columnsAsked_112 : decode cX10_columnsAsked 112 = .ok (.iload 8, 2) := by decide +kernel
theorem dX10_columnsAsked_114 : decode cX10_columnsAsked 114 = .ok (.invokevirtual 148, 3) := by decide +kernel
theorem dX10_columnsAsked_117 : decode cX10_columnsAsked 117 = .ok (.istore 9, 2) := by decide +kernel
theorem dX10_columnsAsked_119 : decode cX10_columnsAsked 119 = .ok (.iload 8, 2) := by decide +kernel
theorem dX10_columnsAsked_121 : decode cX10_columnsAsked 121 = .ok (.iconst (-1), 1) := by decide +kernel
theorem dX10_columnsAsked_122 : decode cX10_columnsAsked 122 = .ok (.if_icmp .eq 24, 3) := by decide +kernel
theorem dX10_columnsAsked_125 : decode cX10_columnsAsked 125 = .ok (.iload 9, 2) := by decide +kernel
theorem dX10_columnsAsked_127 : decode cX10_columnsAsked 127 = .ok (.iconst (-1), 1) := by decide +kernel
theorem dX10_columnsAsked_128 : decode cX10_columnsAsked 128 = .ok (.if_icmp .eq 18, 3) := by decide +kernel
theorem dX10_columnsAsked_131 : decode cX10_columnsAsked 131 = .ok (.aload_n 0, 1) := by decide +kernel
theorem dX10_columnsAsked_132 : decode cX10_columnsAsked 132 = .ok (.getfield 33, 3) := by decide +kernel
theorem dX10_columnsAsked_135 : decode cX10_columnsAsked 135 = .ok (.getfield 170, 3) := by decide +kernel
theorem dX10_columnsAsked_138 : decode cX10_columnsAsked 138 = .ok (.iload 9, 2) := by decide +kernel
theorem dX10_columnsAsked_140 : decode cX10_columnsAsked 140 = .ok (.invokestatic 70, 3) := by decide +kernel
theorem dX10_columnsAsked_143 : decode cX10_columnsAsked 143 = .ok (.ifCond .eq 6, 3) := by decide +kernel
theorem dX10_columnsAsked_146 : decode cX10_columnsAsked 146 = .ok (.iload 5, 2) := by decide +kernel
theorem dX10_columnsAsked_148 : decode cX10_columnsAsked 148 = .ok (.ireturn, 1) := by decide +kernel
theorem dX10_columnsAsked_149 : decode cX10_columnsAsked 149 = .ok (.iload_n 3, 1) := by decide +kernel
theorem dX10_columnsAsked_150 : decode cX10_columnsAsked 150 = .ok (.iconst 1, 1) := by decide +kernel
theorem dX10_columnsAsked_151 : decode cX10_columnsAsked 151 = .ok (.iload 8, 2) := by decide +kernel
theorem dX10_columnsAsked_153 : decode cX10_columnsAsked 153 = .ok (.ishl, 1) := by decide +kernel
theorem dX10_columnsAsked_154 : decode cX10_columnsAsked 154 = .ok (.iconst (-1), 1) := by decide +kernel
theorem dX10_columnsAsked_155 : decode cX10_columnsAsked 155 = .ok (.ixor, 1) := by decide +kernel
theorem dX10_columnsAsked_156 : decode cX10_columnsAsked 156 = .ok (.iand, 1) := by decide +kernel
theorem dX10_columnsAsked_157 : decode cX10_columnsAsked 157 = .ok (.istore_n 3, 1) := by decide +kernel
theorem dX10_columnsAsked_158 : decode cX10_columnsAsked 158 = .ok (.iinc 6 1, 3) := by decide +kernel
theorem dX10_columnsAsked_161 : decode cX10_columnsAsked 161 = .ok (.goto (-128), 3) := by decide +kernel
theorem dX10_columnsAsked_164 : decode cX10_columnsAsked 164 = .ok (.iload 5, 2) := by decide +kernel
theorem dX10_columnsAsked_166 : decode cX10_columnsAsked 166 = .ok (.ireturn, 1) := by decide +kernel
theorem dX10_buildAll_0 : decode cX10_buildAll 0 = .ok (.aload_n 0, 1) := by decide +kernel
theorem dX10_buildAll_1 : decode cX10_buildAll 1 = .ok (.aload_n 1, 1) := by decide +kernel
theorem dX10_buildAll_2 : decode cX10_buildAll 2 = .ok (.putfield 33, 3) := by decide +kernel
theorem dX10_buildAll_5 : decode cX10_buildAll 5 = .ok (.aload_n 0, 1) := by decide +kernel
theorem dX10_buildAll_6 : decode cX10_buildAll 6 = .ok (.iload_n 2, 1) := by decide +kernel
theorem dX10_buildAll_7 : decode cX10_buildAll 7 = .ok (.putfield 80, 3) := by decide +kernel
theorem dX10_buildAll_10 : decode cX10_buildAll 10 = .ok (.aload_n 0, 1) := by decide +kernel
theorem dX10_buildAll_11 : decode cX10_buildAll 11 = .ok (.iconst 0, 1) := by decide +kernel
theorem dX10_buildAll_12 : decode cX10_buildAll 12 = .ok (.putfield 183, 3) := by decide +kernel
theorem dX10_buildAll_15 : decode cX10_buildAll 15 = .ok (.aload_n 0, 1) := by decide +kernel
theorem dX10_buildAll_16 : decode cX10_buildAll 16 = .ok (.iconst 0, 1) := by decide +kernel
theorem dX10_buildAll_17 : decode cX10_buildAll 17 = .ok (.putfield 186, 3) := by decide +kernel
theorem dX10_buildAll_20 : decode cX10_buildAll 20 = .ok (.aload_n 0, 1) := by decide +kernel
theorem dX10_buildAll_21 : decode cX10_buildAll 21 = .ok (.iconst 0, 1) := by decide +kernel
theorem dX10_buildAll_22 : decode cX10_buildAll 22 = .ok (.putfield 189, 3) := by decide +kernel
theorem dX10_buildAll_25 : decode cX10_buildAll 25 = .ok (.aload_n 0, 1) := by decide +kernel
theorem dX10_buildAll_26 : decode cX10_buildAll 26 = .ok (.iconst 0, 1) := by decide +kernel
theorem dX10_buildAll_27 : decode cX10_buildAll 27 = .ok (.putfield 192, 3) := by decide +kernel
theorem dX10_buildAll_30 : decode cX10_buildAll 30 = .ok (.aload_n 0, 1) := by decide +kernel
theorem dX10_buildAll_31 : decode cX10_buildAll 31 = .ok (.iconst 0, 1) := by decide +kernel
theorem dX10_buildAll_32 : decode cX10_buildAll 32 = .ok (.putfield 195, 3) := by decide +kernel
theorem dX10_buildAll_35 : decode cX10_buildAll 35 = .ok (.aload_n 0, 1) := by decide +kernel
theorem dX10_buildAll_36 : decode cX10_buildAll 36 = .ok (.aload_n 0, 1) := by decide +kernel
theorem dX10_buildAll_37 : decode cX10_buildAll 37 = .ok (.getfield 33, 3) := by decide +kernel
theorem dX10_buildAll_40 : decode cX10_buildAll 40 = .ok (.invokevirtual 134, 3) := by decide +kernel
theorem dX10_buildAll_43 : decode cX10_buildAll 43 = .ok (.aload_n 0, 1) := by decide +kernel
theorem dX10_buildAll_44 : decode cX10_buildAll 44 = .ok (.invokevirtual 138, 3) := by decide +kernel
theorem dX10_buildAll_47 : decode cX10_buildAll 47 = .ok (.iconst 0, 1) := by decide +kernel
theorem dX10_buildAll_48 : decode cX10_buildAll 48 = .ok (.invokestatic 199, 3) := by decide +kernel
theorem dX10_buildAll_51 : decode cX10_buildAll 51 = .ok (.return_, 1) := by decide +kernel
theorem dX10_build_0 : decode cX10_build 0 = .ok (.aload_n 0, 1) := by decide +kernel
theorem dX10_build_1 : decode cX10_build 1 = .ok (.getfield 183, 3) := by decide +kernel
theorem dX10_build_4 : decode cX10_build 4 = .ok (.aload_n 0, 1) := by decide +kernel
theorem dX10_build_5 : decode cX10_build 5 = .ok (.getfield 29, 3) := by decide +kernel
theorem dX10_build_8 : decode cX10_build 8 = .ok (.getfield 203, 3) := by decide +kernel
theorem dX10_build_11 : decode cX10_build 11 = .ok (.if_icmp .ge 9, 3) := by decide +kernel
theorem dX10_build_14 : decode cX10_build 14 = .ok (.iload_n 3, 1) := by decide +kernel
theorem dX10_build_15 : decode cX10_build 15 = .ok (.bipush 20, 2) := by decide +kernel
theorem dX10_build_17 : decode cX10_build 17 = .ok (.if_icmp .le 9, 3) := by decide +kernel
theorem dX10_build_20 : decode cX10_build 20 = .ok (.aload_n 0, 1) := by decide +kernel
theorem dX10_build_21 : decode cX10_build 21 = .ok (.iconst 1, 1) := by decide +kernel
theorem dX10_build_22 : decode cX10_build 22 = .ok (.putfield 195, 3) := by decide +kernel
theorem dX10_build_25 : decode cX10_build 25 = .ok (.return_, 1) := by decide +kernel
theorem dX10_build_26 : decode cX10_build 26 = .ok (.aload_n 0, 1) := by decide +kernel
theorem dX10_build_27 : decode cX10_build 27 = .ok (.getfield 183, 3) := by decide +kernel
theorem dX10_build_30 : decode cX10_build 30 = .ok (.istore 4, 2) := by decide +kernel
theorem dX10_build_32 : decode cX10_build 32 = .ok (.aload_n 0, 1) := by decide +kernel
theorem dX10_build_33 : decode cX10_build 33 = .ok (.invokevirtual 206, 3) := by decide +kernel
theorem dX10_build_36 : decode cX10_build 36 = .ok (.aload_n 0, 1) := by decide +kernel
theorem dX10_build_37 : decode cX10_build 37 = .ok (.iload_n 1, 1) := by decide +kernel
theorem dX10_build_38 : decode cX10_build 38 = .ok (.iload_n 2, 1) := by decide +kernel
theorem dX10_build_39 : decode cX10_build 39 = .ok (.invokevirtual 145, 3) := by decide +kernel
theorem dX10_build_42 : decode cX10_build 42 = .ok (.istore 5, 2) := by decide +kernel
theorem dX10_build_44 : decode cX10_build 44 = .ok (.aload_n 0, 1) := by decide +kernel
theorem dX10_build_45 : decode cX10_build 45 = .ok (.getfield 33, 3) := by decide +kernel
theorem dX10_build_48 : decode cX10_build 48 = .ok (.iload_n 1, 1) := by decide +kernel
theorem dX10_build_49 : decode cX10_build 49 = .ok (.invokevirtual 64, 3) := by decide +kernel
theorem dX10_build_52 : decode cX10_build 52 = .ok (.istore 6, 2) := by decide +kernel
theorem dX10_build_54 : decode cX10_build 54 = .ok (.iload 5, 2) := by decide +kernel
theorem dX10_build_56 : decode cX10_build 56 = .ok (.iconst (-1), 1) := by decide +kernel
theorem dX10_build_57 : decode cX10_build 57 = .ok (.if_icmp .eq 69, 3) := by decide +kernel
theorem dX10_build_60 : decode cX10_build 60 = .ok (.aload_n 0, 1) := by decide +kernel
theorem dX10_build_61 : decode cX10_build 61 = .ok (.iload_n 1, 1) := by decide +kernel
theorem dX10_build_62 : decode cX10_build 62 = .ok (.iload_n 2, 1) := by decide +kernel
theorem dX10_build_63 : decode cX10_build 63 = .ok (.iload 5, 2) := by decide +kernel
theorem dX10_build_65 : decode cX10_build 65 = .ok (.invokevirtual 154, 3) := by decide +kernel
theorem dX10_build_68 : decode cX10_build 68 = .ok (.astore 7, 2) := by decide +kernel
theorem dX10_build_70 : decode cX10_build 70 = .ok (.iload_n 2, 1) := by decide +kernel
theorem dX10_build_71 : decode cX10_build 71 = .ok (.iconst 1, 1) := by decide +kernel
theorem dX10_build_72 : decode cX10_build 72 = .ok (.iload 5, 2) := by decide +kernel
theorem dX10_build_74 : decode cX10_build 74 = .ok (.ishl, 1) := by decide +kernel
theorem dX10_build_75 : decode cX10_build 75 = .ok (.iconst (-1), 1) := by decide +kernel
theorem dX10_build_76 : decode cX10_build 76 = .ok (.ixor, 1) := by decide +kernel
theorem dX10_build_77 : decode cX10_build 77 = .ok (.iand, 1) := by decide +kernel
theorem dX10_build_78 : decode cX10_build 78 = .ok (.istore 8, 2) := by decide +kernel
theorem dX10_build_80 : decode cX10_build 80 = .ok (.iconst 0, 1) := by decide +kernel
theorem dX10_build_81 : decode cX10_build 81 = .ok (.istore 9, 2) := by decide +kernel
theorem dX10_build_83 : decode cX10_build 83 = .ok (.iload 9, 2) := by decide +kernel
theorem dX10_build_85 : decode cX10_build 85 = .ok (.aload 7, 2) := by decide +kernel
theorem dX10_build_87 : decode cX10_build 87 = .ok (.getfield 103, 3) := by decide +kernel
theorem dX10_build_90 : decode cX10_build 90 = .ok (.if_icmp .ge 33, 3) := by decide +kernel
theorem dX10_build_93 : decode cX10_build 93 = .ok (.aload_n 0, 1) := by decide +kernel
theorem dX10_build_94 : decode cX10_build 94 = .ok (.getfield 195, 3) := by decide +kernel
theorem dX10_build_97 : decode cX10_build 97 = .ok (.ifCond .ne 26, 3) := by decide +kernel
theorem dX10_build_100 : decode cX10_build 100 = .ok (.aload_n 0, 1) := by decide +kernel
theorem dX10_build_101 : decode cX10_build 101 = .ok (.aload 7, 2) := by decide +kernel
theorem dX10_build_103 : decode cX10_build 103 = .ok (.getfield 104, 3) := by decide +kernel
theorem dX10_build_106 : decode cX10_build 106 = .ok (.iload 9, 2) := by decide +kernel
theorem dX10_build_108 : decode cX10_build 108 = .ok (.iaload, 1) := by decide +kernel
theorem dX10_build_109 : decode cX10_build 109 = .ok (.iload 8, 2) := by decide +kernel
theorem dX10_build_111 : decode cX10_build 111 = .ok (.iload_n 3, 1) := by decide +kernel
theorem dX10_build_112 : decode cX10_build 112 = .ok (.iconst 1, 1) := by decide +kernel
theorem dX10_build_113 : decode cX10_build 113 = .ok (.iadd, 1) := by decide +kernel
theorem dX10_build_114 : decode cX10_build 114 = .ok (.invokestatic 199, 3) := by decide +kernel
theorem dX10_build_117 : decode cX10_build 117 = .ok (.iinc 9 1, 3) := by decide +kernel
theorem dX10_build_120 : decode cX10_build 120 = .ok (.goto (-37), 3) := by decide +kernel
theorem dX10_build_123 : decode cX10_build 123 = .ok (.goto 32, 3) := by decide +kernel
theorem dX10_build_126 : decode cX10_build 126 = .ok (.aload_n 0, 1) := by decide +kernel
theorem dX10_build_127 : decode cX10_build 127 = .ok (.getfield 29, 3) := by decide +kernel
theorem dX10_build_130 : decode cX10_build 130 = .ok (.iload 6, 2) := by decide +kernel
theorem dX10_build_132 : decode cX10_build 132 = .ok (.invokevirtual 148, 3) := by decide +kernel
theorem dX10_build_135 : decode cX10_build 135 = .ok (.iconst (-1), 1) := by decide +kernel
theorem dX10_build_136 : decode cX10_build 136 = .ok (.if_icmp .eq 19, 3) := by decide +kernel
theorem dX10_build_139 : decode cX10_build 139 = .ok (.aload_n 0, 1) := by decide +kernel
theorem dX10_build_140 : decode cX10_build 140 = .ok (.iload_n 1, 1) := by decide +kernel
theorem dX10_build_141 : decode cX10_build 141 = .ok (.iconst 1, 1) := by decide +kernel
theorem dX10_build_142 : decode cX10_build 142 = .ok (.iload 6, 2) := by decide +kernel
theorem dX10_build_144 : decode cX10_build 144 = .ok (.ishl, 1) := by decide +kernel
theorem dX10_build_145 : decode cX10_build 145 = .ok (.iconst (-1), 1) := by decide +kernel
theorem dX10_build_146 : decode cX10_build 146 = .ok (.ixor, 1) := by decide +kernel
theorem dX10_build_147 : decode cX10_build 147 = .ok (.iand, 1) := by decide +kernel
theorem dX10_build_148 : decode cX10_build 148 = .ok (.iload_n 2, 1) := by decide +kernel
theorem dX10_build_149 : decode cX10_build 149 = .ok (.iload_n 3, 1) := by decide +kernel
theorem dX10_build_150 : decode cX10_build 150 = .ok (.iconst 1, 1) := by decide +kernel
theorem dX10_build_151 : decode cX10_build 151 = .ok (.iadd, 1) := by decide +kernel
theorem dX10_build_152 : decode cX10_build 152 = .ok (.invokestatic 199, 3) := by decide +kernel
theorem dX10_build_155 : decode cX10_build 155 = .ok (.aload_n 0, 1) := by decide +kernel
theorem dX10_build_156 : decode cX10_build 156 = .ok (.iload 4, 2) := by decide +kernel
theorem dX10_build_158 : decode cX10_build 158 = .ok (.invokevirtual 209, 3) := by decide +kernel
theorem dX10_build_161 : decode cX10_build 161 = .ok (.return_, 1) := by decide +kernel
theorem dX10_openScope_0 : decode cX10_openScope 0 = .ok (.aload_n 0, 1) := by decide +kernel
theorem dX10_openScope_1 : decode cX10_openScope 1 = .ok (.dup, 1) := by decide +kernel
theorem dX10_openScope_2 : decode cX10_openScope 2 = .ok (.getfield 183, 3) := by decide +kernel
theorem dX10_openScope_5 : decode cX10_openScope 5 = .ok (.iconst 1, 1) := by decide +kernel
theorem dX10_openScope_6 : decode cX10_openScope 6 = .ok (.iadd, 1) := by decide +kernel
theorem dX10_openScope_7 : decode cX10_openScope 7 = .ok (.putfield 183, 3) := by decide +kernel
theorem dX10_openScope_10 : decode cX10_openScope 10 = .ok (.aload_n 0, 1) := by decide +kernel
theorem dX10_openScope_11 : decode cX10_openScope 11 = .ok (.dup, 1) := by decide +kernel
theorem dX10_openScope_12 : decode cX10_openScope 12 = .ok (.getfield 186, 3) := by decide +kernel
theorem dX10_openScope_15 : decode cX10_openScope 15 = .ok (.iconst 1, 1) := by decide +kernel
theorem dX10_openScope_16 : decode cX10_openScope 16 = .ok (.iadd, 1) := by decide +kernel
theorem dX10_openScope_17 : decode cX10_openScope 17 = .ok (.putfield 186, 3) := by decide +kernel
theorem dX10_openScope_20 : decode cX10_openScope 20 = .ok (.aload_n 0, 1) := by decide +kernel
theorem dX10_openScope_21 : decode cX10_openScope 21 = .ok (.aload_n 0, 1) := by decide +kernel
theorem dX10_openScope_22 : decode cX10_openScope 22 = .ok (.getfield 189, 3) := by decide +kernel
theorem dX10_openScope_25 : decode cX10_openScope 25 = .ok (.aload_n 0, 1) := by decide +kernel
theorem dX10_openScope_26 : decode cX10_openScope 26 = .ok (.getfield 186, 3) := by decide +kernel
theorem dX10_openScope_29 : decode cX10_openScope 29 = .ok (.invokestatic 116, 3) := by decide +kernel
theorem dX10_openScope_32 : decode cX10_openScope 32 = .ok (.putfield 189, 3) := by decide +kernel
theorem dX10_openScope_35 : decode cX10_openScope 35 = .ok (.return_, 1) := by decide +kernel
theorem dX10_shutScope_0 : decode cX10_shutScope 0 = .ok (.aload_n 0, 1) := by decide +kernel
theorem dX10_shutScope_1 : decode cX10_shutScope 1 = .ok (.getfield 192, 3) := by decide +kernel
theorem dX10_shutScope_4 : decode cX10_shutScope 4 = .ok (.ifCond .lt 35, 3) := by decide +kernel
theorem dX10_shutScope_7 : decode cX10_shutScope 7 = .ok (.aload_n 0, 1) := by decide +kernel
theorem dX10_shutScope_8 : decode cX10_shutScope 8 = .ok (.getfield 192, 3) := by decide +kernel
theorem dX10_shutScope_11 : decode cX10_shutScope 11 = .ok (.aload_n 0, 1) := by decide +kernel
theorem dX10_shutScope_12 : decode cX10_shutScope 12 = .ok (.getfield 25, 3) := by decide +kernel
theorem dX10_shutScope_15 : decode cX10_shutScope 15 = .ok (.arraylength, 1) := by decide +kernel
theorem dX10_shutScope_16 : decode cX10_shutScope 16 = .ok (.if_icmp .ge 23, 3) := by decide +kernel
theorem dX10_shutScope_19 : decode cX10_shutScope 19 = .ok (.aload_n 0, 1) := by decide +kernel
theorem dX10_shutScope_20 : decode cX10_shutScope 20 = .ok (.getfield 25, 3) := by decide +kernel
theorem dX10_shutScope_23 : decode cX10_shutScope 23 = .ok (.aload_n 0, 1) := by decide +kernel
theorem dX10_shutScope_24 : decode cX10_shutScope 24 = .ok (.getfield 192, 3) := by decide +kernel
theorem dX10_shutScope_27 : decode cX10_shutScope 27 = .ok (.iload_n 1, 1) := by decide +kernel
theorem dX10_shutScope_28 : decode cX10_shutScope 28 = .ok (.iastore, 1) := by decide +kernel
theorem dX10_shutScope_29 : decode cX10_shutScope 29 = .ok (.aload_n 0, 1) := by decide +kernel
theorem dX10_shutScope_30 : decode cX10_shutScope 30 = .ok (.dup, 1) := by decide +kernel
theorem dX10_shutScope_31 : decode cX10_shutScope 31 = .ok (.getfield 192, 3) := by decide +kernel
theorem dX10_shutScope_34 : decode cX10_shutScope 34 = .ok (.iconst 1, 1) := by decide +kernel
theorem dX10_shutScope_35 : decode cX10_shutScope 35 = .ok (.iadd, 1) := by decide +kernel
theorem dX10_shutScope_36 : decode cX10_shutScope 36 = .ok (.putfield 192, 3) := by decide +kernel
theorem dX10_shutScope_39 : decode cX10_shutScope 39 = .ok (.aload_n 0, 1) := by decide +kernel
theorem dX10_shutScope_40 : decode cX10_shutScope 40 = .ok (.dup, 1) := by decide +kernel
theorem dX10_shutScope_41 : decode cX10_shutScope 41 = .ok (.getfield 186, 3) := by decide +kernel
theorem dX10_shutScope_44 : decode cX10_shutScope 44 = .ok (.iconst 1, 1) := by decide +kernel
theorem dX10_shutScope_45 : decode cX10_shutScope 45 = .ok (.isub, 1) := by decide +kernel
theorem dX10_shutScope_46 : decode cX10_shutScope 46 = .ok (.putfield 186, 3) := by decide +kernel
theorem dX10_shutScope_49 : decode cX10_shutScope 49 = .ok (.return_, 1) := by decide +kernel
theorem dX10_scopeShutAs_0 : decode cX10_scopeShutAs 0 = .ok (.iload_n 1, 1) := by decide +kernel
theorem dX10_scopeShutAs_1 : decode cX10_scopeShutAs 1 = .ok (.ifCond .lt 29, 3) := by decide +kernel
theorem dX10_scopeShutAs_4 : decode cX10_scopeShutAs 4 = .ok (.iload_n 1, 1) := by decide +kernel
theorem dX10_scopeShutAs_5 : decode cX10_scopeShutAs 5 = .ok (.aload_n 0, 1) := by decide +kernel
theorem dX10_scopeShutAs_6 : decode cX10_scopeShutAs 6 = .ok (.getfield 192, 3) := by decide +kernel
theorem dX10_scopeShutAs_9 : decode cX10_scopeShutAs 9 = .ok (.if_icmp .ge 21, 3) := by decide +kernel
theorem dX10_scopeShutAs_12 : decode cX10_scopeShutAs 12 = .ok (.iload_n 1, 1) := by decide +kernel
theorem dX10_scopeShutAs_13 : decode cX10_scopeShutAs 13 = .ok (.aload_n 0, 1) := by decide +kernel
theorem dX10_scopeShutAs_14 : decode cX10_scopeShutAs 14 = .ok (.getfield 25, 3) := by decide +kernel
theorem dX10_scopeShutAs_17 : decode cX10_scopeShutAs 17 = .ok (.arraylength, 1) := by decide +kernel
theorem dX10_scopeShutAs_18 : decode cX10_scopeShutAs 18 = .ok (.if_icmp .ge 12, 3) := by decide +kernel
theorem dX10_scopeShutAs_21 : decode cX10_scopeShutAs 21 = .ok (.aload_n 0, 1) := by decide +kernel
theorem dX10_scopeShutAs_22 : decode cX10_scopeShutAs 22 = .ok (.getfield 25, 3) := by decide +kernel
theorem dX10_scopeShutAs_25 : decode cX10_scopeShutAs 25 = .ok (.iload_n 1, 1) := by decide +kernel
theorem dX10_scopeShutAs_26 : decode cX10_scopeShutAs 26 = .ok (.iaload, 1) := by decide +kernel
theorem dX10_scopeShutAs_27 : decode cX10_scopeShutAs 27 = .ok (.goto 4, 3) := by decide +kernel
theorem dX10_scopeShutAs_30 : decode cX10_scopeShutAs 30 = .ok (.iconst (-1), 1) := by decide +kernel
theorem dX10_scopeShutAs_31 : decode cX10_scopeShutAs 31 = .ok (.ireturn, 1) := by decide +kernel
theorem dX11_init_0 : decode cX11_init 0 = .ok (.aload_n 0, 1) := by decide +kernel
theorem dX11_init_1 : decode cX11_init 1 = .ok (.invokespecial 3, 3) := by decide +kernel
theorem dX11_init_4 : decode cX11_init 4 = .ok (.aload_n 0, 1) := by decide +kernel
theorem dX11_init_5 : decode cX11_init 5 = .ok (.new 9, 3) := by decide +kernel
theorem dX11_init_8 : decode cX11_init 8 = .ok (.dup, 1) := by decide +kernel
theorem dX11_init_9 : decode cX11_init 9 = .ok (.sipush 1600, 3) := by decide +kernel
theorem dX11_init_12 : decode cX11_init 12 = .ok (.invokespecial 11, 3) := by decide +kernel
theorem dX11_init_15 : decode cX11_init 15 = .ok (.putfield 14, 3) := by decide +kernel
theorem dX11_init_18 : decode cX11_init 18 = .ok (.aload_n 0, 1) := by decide +kernel
theorem dX11_init_19 : decode cX11_init 19 = .ok (.new 9, 3) := by decide +kernel
theorem dX11_init_22 : decode cX11_init 22 = .ok (.dup, 1) := by decide +kernel
theorem dX11_init_23 : decode cX11_init 23 = .ok (.sipush 1024, 3) := by decide +kernel
theorem dX11_init_26 : decode cX11_init 26 = .ok (.invokespecial 11, 3) := by decide +kernel
theorem dX11_init_29 : decode cX11_init 29 = .ok (.putfield 18, 3) := by decide +kernel
theorem dX11_init_32 : decode cX11_init 32 = .ok (.aload_n 0, 1) := by decide +kernel
theorem dX11_init_33 : decode cX11_init 33 = .ok (.new 21, 3) := by decide +kernel
theorem dX11_init_36 : decode cX11_init 36 = .ok (.dup, 1) := by decide +kernel
theorem dX11_init_37 : decode cX11_init 37 = .ok (.invokespecial 23, 3) := by decide +kernel
theorem dX11_init_40 : decode cX11_init 40 = .ok (.putfield 24, 3) := by decide +kernel
theorem dX11_init_43 : decode cX11_init 43 = .ok (.aload_n 0, 1) := by decide +kernel
theorem dX11_init_44 : decode cX11_init 44 = .ok (.new 28, 3) := by decide +kernel
theorem dX11_init_47 : decode cX11_init 47 = .ok (.dup, 1) := by decide +kernel
theorem dX11_init_48 : decode cX11_init 48 = .ok (.sipush 4096, 3) := by decide +kernel
theorem dX11_init_51 : decode cX11_init 51 = .ok (.aload_n 0, 1) := by decide +kernel
theorem dX11_init_52 : decode cX11_init 52 = .ok (.getfield 24, 3) := by decide +kernel
theorem dX11_init_55 : decode cX11_init 55 = .ok (.invokespecial 30, 3) := by decide +kernel
theorem dX11_init_58 : decode cX11_init 58 = .ok (.putfield 33, 3) := by decide +kernel
theorem dX11_init_61 : decode cX11_init 61 = .ok (.aload_n 0, 1) := by decide +kernel
theorem dX11_init_62 : decode cX11_init 62 = .ok (.new 28, 3) := by decide +kernel
theorem dX11_init_65 : decode cX11_init 65 = .ok (.dup, 1) := by decide +kernel
theorem dX11_init_66 : decode cX11_init 66 = .ok (.sipush 4096, 3) := by decide +kernel
theorem dX11_init_69 : decode cX11_init 69 = .ok (.aload_n 0, 1) := by decide +kernel
theorem dX11_init_70 : decode cX11_init 70 = .ok (.getfield 24, 3) := by decide +kernel
theorem dX11_init_73 : decode cX11_init 73 = .ok (.invokespecial 30, 3) := by decide +kernel
theorem dX11_init_76 : decode cX11_init 76 = .ok (.putfield 37, 3) := by decide +kernel
theorem dX11_init_79 : decode cX11_init 79 = .ok (.aload_n 0, 1) := by decide +kernel
theorem dX11_init_80 : decode cX11_init 80 = .ok (.new 40, 3) := by decide +kernel
theorem dX11_init_83 : decode cX11_init 83 = .ok (.dup, 1) := by decide +kernel
theorem dX11_init_84 : decode cX11_init 84 = .ok (.invokespecial 42, 3) := by decide +kernel
theorem dX11_init_87 : decode cX11_init 87 = .ok (.putfield 43, 3) := by decide +kernel
theorem dX11_init_90 : decode cX11_init 90 = .ok (.aload_n 0, 1) := by decide +kernel
theorem dX11_init_91 : decode cX11_init 91 = .ok (.new 40, 3) := by decide +kernel
theorem dX11_init_94 : decode cX11_init 94 = .ok (.dup, 1) := by decide +kernel
theorem dX11_init_95 : decode cX11_init 95 = .ok (.invokespecial 42, 3) := by decide +kernel
theorem dX11_init_98 : decode cX11_init 98 = .ok (.putfield 47, 3) := by decide +kernel
theorem dX11_init_101 : decode cX11_init 101 = .ok (.aload_n 0, 1) := by decide +kernel
theorem dX11_init_102 : decode cX11_init 102 = .ok (.new 50, 3) := by decide +kernel
theorem dX11_init_105 : decode cX11_init 105 = .ok (.dup, 1) := by decide +kernel
theorem dX11_init_106 : decode cX11_init 106 = .ok (.invokespecial 52, 3) := by decide +kernel
theorem dX11_init_109 : decode cX11_init 109 = .ok (.putfield 53, 3) := by decide +kernel
theorem dX11_init_112 : decode cX11_init 112 = .ok (.aload_n 0, 1) := by decide +kernel
theorem dX11_init_113 : decode cX11_init 113 = .ok (.new 57, 3) := by decide +kernel
theorem dX11_init_116 : decode cX11_init 116 = .ok (.dup, 1) := by decide +kernel
theorem dX11_init_117 : decode cX11_init 117 = .ok (.invokespecial 59, 3) := by decide +kernel
theorem dX11_init_120 : decode cX11_init 120 = .ok (.putfield 60, 3) := by decide +kernel
theorem dX11_init_123 : decode cX11_init 123 = .ok (.aload_n 0, 1) := by decide +kernel
theorem dX11_init_124 : decode cX11_init 124 = .ok (.bipush 6, 2) := by decide +kernel
theorem dX11_init_126 : decode cX11_init 126 = .ok (.newarray .int, 2) := by decide +kernel
theorem dX11_init_128 : decode cX11_init 128 = .ok (.putfield 64, 3) := by decide +kernel
theorem dX11_init_131 : decode cX11_init 131 = .ok (.aload_n 0, 1) := by decide +kernel
theorem dX11_init_132 : decode cX11_init 132 = .ok (.new 68, 3) := by decide +kernel
theorem dX11_init_135 : decode cX11_init 135 = .ok (.dup, 1) := by decide +kernel
theorem dX11_init_136 : decode cX11_init 136 = .ok (.invokespecial 70, 3) := by decide +kernel
theorem dX11_init_139 : decode cX11_init 139 = .ok (.putfield 71, 3) := by decide +kernel
theorem dX11_init_142 : decode cX11_init 142 = .ok (.aload_n 0, 1) := by decide +kernel
theorem dX11_init_143 : decode cX11_init 143 = .ok (.new 68, 3) := by decide +kernel
end
section
theorem dX11_init_146 : decode cX11_init 146 = .ok (.dup, 1) := by decide +kernel
theorem dX11_init_147 : decode cX11_init 147 = .ok (.invokespecial 70, 3) := by decide +kernel
theorem dX11_init_150 : decode cX11_init 150 = .ok (.putfield 75, 3) := by decide +kernel
theorem dX11_init_153 : decode cX11_init 153 = .ok (.aload_n 0, 1) := by decide +kernel
theorem dX11_init_154 : decode cX11_init 154 = .ok (.new 78, 3) := by decide +kernel
theorem dX11_init_157 : decode cX11_init 157 = .ok (.dup, 1) := by decide +kernel
theorem dX11_init_158 : decode cX11_init 158 = .ok (.aload_n 0, 1) := by decide +kernel
theorem dX11_init_159 : decode cX11_init 159 = .ok (.getfield 71, 3) := by decide +kernel
theorem dX11_init_162 : decode cX11_init 162 = .ok (.invokespecial 80, 3) := by decide +kernel
theorem dX11_init_165 : decode cX11_init 165 = .ok (.putfield 83, 3) := by decide +kernel
theorem dX11_init_168 : decode cX11_init 168 = .ok (.aload_n 0, 1) := by decide +kernel
theorem dX11_init_169 : decode cX11_init 169 = .ok (.new 87, 3) := by decide +kernel
theorem dX11_init_172 : decode cX11_init 172 = .ok (.dup, 1) := by decide +kernel
theorem dX11_init_173 : decode cX11_init 173 = .ok (.aload_n 0, 1) := by decide +kernel
theorem dX11_init_174 : decode cX11_init 174 = .ok (.getfield 71, 3) := by decide +kernel
theorem dX11_init_177 : decode cX11_init 177 = .ok (.aload_n 0, 1) := by decide +kernel
theorem dX11_init_178 : decode cX11_init 178 = .ok (.getfield 43, 3) := by decide +kernel
theorem dX11_init_181 : decode cX11_init 181 = .ok (.aload_n 0, 1) := by decide +kernel
theorem dX11_init_182 : decode cX11_init 182 = .ok (.getfield 24, 3) := by decide +kernel
theorem dX11_init_185 : decode cX11_init 185 = .ok (.invokespecial 89, 3) := by decide +kernel
theorem dX11_init_188 : decode cX11_init 188 = .ok (.putfield 92, 3) := by decide +kernel
theorem dX11_init_191 : decode cX11_init 191 = .ok (.aload_n 0, 1) := by decide +kernel
theorem dX11_init_192 : decode cX11_init 192 = .ok (.iconst 1, 1) := by decide +kernel
theorem dX11_init_193 : decode cX11_init 193 = .ok (.putfield 96, 3) := by decide +kernel
theorem dX11_init_196 : decode cX11_init 196 = .ok (.return_, 1) := by decide +kernel
theorem dX11_feed_0 : decode cX11_feed 0 = .ok (.aload_n 0, 1) := by decide +kernel
theorem dX11_feed_1 : decode cX11_feed 1 = .ok (.getfield 14, 3) := by decide +kernel
theorem dX11_feed_4 : decode cX11_feed 4 = .ok (.getfield 100, 3) := by decide +kernel
theorem dX11_feed_7 : decode cX11_feed 7 = .ok (.bipush 20, 2) := by decide +kernel
theorem dX11_feed_9 : decode cX11_feed 9 = .ok (.iadd, 1) := by decide +kernel
theorem dX11_feed_10 : decode cX11_feed 10 = .ok (.sipush 1600, 3) := by decide +kernel
theorem dX11_feed_13 : decode cX11_feed 13 = .ok (.if_icmp .le 11, 3) := by decide +kernel
theorem dX11_feed_16 : decode cX11_feed 16 = .ok (.aload_n 0, 1) := by decide +kernel
theorem dX11_feed_17 : decode cX11_feed 17 = .ok (.iconst 0, 1) := by decide +kernel
theorem dX11_feed_18 : decode cX11_feed 18 = .ok (.invokevirtual 103, 3) := by decide +kernel
theorem dX11_feed_21 : decode cX11_feed 21 = .ok (.pop, 1) := by decide +kernel
theorem dX11_feed_22 : decode cX11_feed 22 = .ok (.iconst (-1), 1) := by decide +kernel
theorem dX11_feed_23 : decode cX11_feed 23 = .ok (.ireturn, 1) := by decide +kernel
theorem dX11_feed_24 : decode cX11_feed 24 = .ok (.aload_n 0, 1) := by decide +kernel
theorem dX11_feed_25 : decode cX11_feed 25 = .ok (.getfield 14, 3) := by decide +kernel
theorem dX11_feed_28 : decode cX11_feed 28 = .ok (.iload_n 1, 1) := by decide +kernel
theorem dX11_feed_29 : decode cX11_feed 29 = .ok (.invokevirtual 107, 3) := by decide +kernel
theorem dX11_feed_32 : decode cX11_feed 32 = .ok (.aload_n 0, 1) := by decide +kernel
theorem dX11_feed_33 : decode cX11_feed 33 = .ok (.getfield 14, 3) := by decide +kernel
theorem dX11_feed_36 : decode cX11_feed 36 = .ok (.iload_n 2, 1) := by decide +kernel
theorem dX11_feed_37 : decode cX11_feed 37 = .ok (.invokevirtual 107, 3) := by decide +kernel
theorem dX11_feed_40 : decode cX11_feed 40 = .ok (.aload_n 0, 1) := by decide +kernel
theorem dX11_feed_41 : decode cX11_feed 41 = .ok (.getfield 14, 3) := by decide +kernel
theorem dX11_feed_44 : decode cX11_feed 44 = .ok (.iload_n 3, 1) := by decide +kernel
theorem dX11_feed_45 : decode cX11_feed 45 = .ok (.invokevirtual 107, 3) := by decide +kernel
theorem dX11_feed_48 : decode cX11_feed 48 = .ok (.aload_n 0, 1) := by decide +kernel
theorem dX11_feed_49 : decode cX11_feed 49 = .ok (.getfield 14, 3) := by decide +kernel
theorem dX11_feed_52 : decode cX11_feed 52 = .ok (.iload 4, 2) := by decide +kernel
theorem dX11_feed_54 : decode cX11_feed 54 = .ok (.invokevirtual 107, 3) := by decide +kernel
theorem dX11_feed_57 : decode cX11_feed 57 = .ok (.aload_n 0, 1) := by decide +kernel
theorem dX11_feed_58 : decode cX11_feed 58 = .ok (.getfield 14, 3) := by decide +kernel
theorem dX11_feed_61 : decode cX11_feed 61 = .ok (.iload 5, 2) := by decide +kernel
theorem dX11_feed_63 : decode cX11_feed 63 = .ok (.invokevirtual 107, 3) := by decide +kernel
theorem dX11_feed_66 : decode cX11_feed 66 = .ok (.aload_n 0, 1) := by decide +kernel
theorem dX11_feed_67 : decode cX11_feed 67 = .ok (.getfield 14, 3) := by decide +kernel
theorem dX11_feed_70 : decode cX11_feed 70 = .ok (.getfield 100, 3) := by decide +kernel
theorem dX11_feed_73 : decode cX11_feed 73 = .ok (.ireturn, 1) := by decide +kernel
theorem dX11_end_0 : decode cX11_end 0 = .ok (.iload_n 1, 1) := by decide +kernel
theorem dX11_end_1 : decode cX11_end 1 = .ok (.ifCond .lt 14, 3) := by decide +kernel
theorem dX11_end_4 : decode cX11_end 4 = .ok (.iload_n 1, 1) := by decide +kernel
theorem dX11_end_5 : decode cX11_end 5 = .ok (.aload_n 0, 1) := by decide +kernel
theorem dX11_end_6 : decode cX11_end 6 = .ok (.getfield 14, 3) := by decide +kernel
theorem dX11_end_9 : decode cX11_end 9 = .ok (.getfield 100, 3) := by decide +kernel
theorem dX11_end_12 : decode cX11_end 12 = .ok (.if_icmp .le 9, 3) := by decide +kernel
theorem dX11_end_15 : decode cX11_end 15 = .ok (.aload_n 0, 1) := by decide +kernel
theorem dX11_end_16 : decode cX11_end 16 = .ok (.iconst 0, 1) := by decide +kernel
theorem dX11_end_17 : decode cX11_end 17 = .ok (.invokevirtual 103, 3) := by decide +kernel
theorem dX11_end_20 : decode cX11_end 20 = .ok (.ireturn, 1) := by decide +kernel
theorem dX11_end_21 : decode cX11_end 21 = .ok (.aload_n 0, 1) := by decide +kernel
theorem dX11_end_22 : decode cX11_end 22 = .ok (.getfield 14, 3) := by decide +kernel
theorem dX11_end_25 : decode cX11_end 25 = .ok (.iload_n 1, 1) := by decide +kernel
theorem dX11_end_26 : decode cX11_end 26 = .ok (.putfield 100, 3) := by decide +kernel
theorem dX11_end_29 : decode cX11_end 29 = .ok (.iconst 1, 1) := by decide +kernel
theorem dX11_end_30 : decode cX11_end 30 = .ok (.ireturn, 1) := by decide +kernel
theorem dX11_match_0 : decode cX11_match 0 = .ok (.aload_n 0, 1) := by decide +kernel
theorem dX11_match_1 : decode cX11_match 1 = .ok (.getfield 83, 3) := by decide +kernel
theorem dX11_match_4 : decode cX11_match 4 = .ok (.aload_n 0, 1) := by decide +kernel
theorem dX11_match_5 : decode cX11_match 5 = .ok (.getfield 14, 3) := by decide +kernel
theorem dX11_match_8 : decode cX11_match 8 = .ok (.aload_n 0, 1) := by decide +kernel
theorem dX11_match_9 : decode cX11_match 9 = .ok (.getfield 75, 3) := by decide +kernel
theorem dX11_match_12 : decode cX11_match 12 = .ok (.invokevirtual 110, 3) := by decide +kernel
theorem dX11_match_15 : decode cX11_match 15 = .ok (.istore_n 1, 1) := by decide +kernel
theorem dX11_match_16 : decode cX11_match 16 = .ok (.aload_n 0, 1) := by decide +kernel
theorem dX11_match_17 : decode cX11_match 17 = .ok (.getfield 14, 3) := by decide +kernel
theorem dX11_match_20 : decode cX11_match 20 = .ok (.iconst 0, 1) := by decide +kernel
theorem dX11_match_21 : decode cX11_match 21 = .ok (.putfield 100, 3) := by decide +kernel
theorem dX11_match_24 : decode cX11_match 24 = .ok (.iload_n 1, 1) := by decide +kernel
theorem dX11_match_25 : decode cX11_match 25 = .ok (.iconst (-1), 1) := by decide +kernel
theorem dX11_match_26 : decode cX11_match 26 = .ok (.if_icmp .ne 11, 3) := by decide +kernel
theorem dX11_match_29 : decode cX11_match 29 = .ok (.aload_n 0, 1) := by decide +kernel
theorem dX11_match_30 : decode cX11_match 30 = .ok (.iconst 1, 1) := by decide +kernel
theorem dX11_match_31 : decode cX11_match 31 = .ok (.invokevirtual 103, 3) := by decide +kernel
theorem dX11_match_34 : decode cX11_match 34 = .ok (.pop, 1) := by decide +kernel
theorem dX11_match_35 : decode cX11_match 35 = .ok (.iconst (-1), 1) := by decide +kernel
theorem dX11_match_36 : decode cX11_match 36 = .ok (.ireturn, 1) := by decide +kernel
theorem dX11_match_37 : decode cX11_match 37 = .ok (.aload_n 0, 1) := by decide +kernel
theorem dX11_match_38 : decode cX11_match 38 = .ok (.getfield 71, 3) := by decide +kernel
theorem dX11_match_41 : decode cX11_match 41 = .ok (.astore_n 2, 1) := by decide +kernel
theorem dX11_match_42 : decode cX11_match 42 = .ok (.aload_n 0, 1) := by decide +kernel
theorem dX11_match_43 : decode cX11_match 43 = .ok (.aload_n 0, 1) := by decide +kernel
theorem dX11_match_44 : decode cX11_match 44 = .ok (.getfield 75, 3) := by decide +kernel
theorem dX11_match_47 : decode cX11_match 47 = .ok (.putfield 71, 3) := by decide +kernel
theorem dX11_match_50 : decode cX11_match 50 = .ok (.aload_n 0, 1) := by decide +kernel
theorem dX11_match_51 : decode cX11_match 51 = .ok (.aload_n 2, 1) := by decide +kernel
theorem dX11_match_52 : decode cX11_match 52 = .ok (.putfield 75, 3) := by decide +kernel
theorem dX11_match_55 : decode cX11_match 55 = .ok (.aload_n 0, 1) := by decide +kernel
theorem dX11_match_56 : decode cX11_match 56 = .ok (.invokevirtual 114, 3) := by decide +kernel
theorem dX11_match_59 : decode cX11_match 59 = .ok (.iload_n 1, 1) := by decide +kernel
theorem dX11_match_60 : decode cX11_match 60 = .ok (.ireturn, 1) := by decide +kernel
theorem dX11_startMatch_0 : decode cX11_startMatch 0 = .ok (.aload_n 0, 1) := by decide +kernel
theorem dX11_startMatch_1 : decode cX11_startMatch 1 = .ok (.getfield 92, 3) := by decide +kernel
theorem dX11_startMatch_4 : decode cX11_startMatch 4 = .ok (.aload_n 0, 1) := by decide +kernel
theorem dX11_startMatch_5 : decode cX11_startMatch 5 = .ok (.getfield 71, 3) := by decide +kernel
theorem dX11_startMatch_8 : decode cX11_startMatch 8 = .ok (.invokevirtual 117, 3) := by decide +kernel
theorem dX11_startMatch_11 : decode cX11_startMatch 11 = .ok (.aload_n 0, 1) := by decide +kernel
theorem dX11_startMatch_12 : decode cX11_startMatch 12 = .ok (.getfield 33, 3) := by decide +kernel
theorem dX11_startMatch_15 : decode cX11_startMatch 15 = .ok (.invokevirtual 120, 3) := by decide +kernel
theorem dX11_startMatch_18 : decode cX11_startMatch 18 = .ok (.aload_n 0, 1) := by decide +kernel
theorem dX11_startMatch_19 : decode cX11_startMatch 19 = .ok (.getfield 33, 3) := by decide +kernel
theorem dX11_startMatch_22 : decode cX11_startMatch 22 = .ok (.iconst 1, 1) := by decide +kernel
theorem dX11_startMatch_23 : decode cX11_startMatch 23 = .ok (.aload_n 0, 1) := by decide +kernel
theorem dX11_startMatch_24 : decode cX11_startMatch 24 = .ok (.getfield 71, 3) := by decide +kernel
theorem dX11_startMatch_27 : decode cX11_startMatch 27 = .ok (.getfield 123, 3) := by decide +kernel
theorem dX11_startMatch_30 : decode cX11_startMatch 30 = .ok (.ishl, 1) := by decide +kernel
theorem dX11_startMatch_31 : decode cX11_startMatch 31 = .ok (.iconst 1, 1) := by decide +kernel
theorem dX11_startMatch_32 : decode cX11_startMatch 32 = .ok (.isub, 1) := by decide +kernel
theorem dX11_startMatch_33 : decode cX11_startMatch 33 = .ok (.iconst 1, 1) := by decide +kernel
theorem dX11_startMatch_34 : decode cX11_startMatch 34 = .ok (.invokevirtual 126, 3) := by decide +kernel
theorem dX11_startMatch_37 : decode cX11_startMatch 37 = .ok (.iconst 0, 1) := by decide +kernel
theorem dX11_startMatch_38 : decode cX11_startMatch 38 = .ok (.istore_n 1, 1) := by decide +kernel
theorem dX11_startMatch_39 : decode cX11_startMatch 39 = .ok (.iload_n 1, 1) := by decide +kernel
theorem dX11_startMatch_40 : decode cX11_startMatch 40 = .ok (.aload_n 0, 1) := by decide +kernel
theorem dX11_startMatch_41 : decode cX11_startMatch 41 = .ok (.getfield 71, 3) := by decide +kernel
theorem dX11_startMatch_44 : decode cX11_startMatch 44 = .ok (.getfield 130, 3) := by decide +kernel
theorem dX11_startMatch_47 : decode cX11_startMatch 47 = .ok (.if_icmp .ge 47, 3) := by decide +kernel
theorem dX11_startMatch_50 : decode cX11_startMatch 50 = .ok (.aload_n 0, 1) := by decide +kernel
theorem dX11_startMatch_51 : decode cX11_startMatch 51 = .ok (.getfield 37, 3) := by decide +kernel
theorem dX11_startMatch_54 : decode cX11_startMatch 54 = .ok (.aload_n 0, 1) := by decide +kernel
theorem dX11_startMatch_55 : decode cX11_startMatch 55 = .ok (.getfield 33, 3) := by decide +kernel
theorem dX11_startMatch_58 : decode cX11_startMatch 58 = .ok (.invokevirtual 133, 3) := by decide +kernel
theorem dX11_startMatch_61 : decode cX11_startMatch 61 = .ok (.aload_n 0, 1) := by decide +kernel
theorem dX11_startMatch_62 : decode cX11_startMatch 62 = .ok (.getfield 33, 3) := by decide +kernel
theorem dX11_startMatch_65 : decode cX11_startMatch 65 = .ok (.invokevirtual 120, 3) := by decide +kernel
theorem dX11_startMatch_68 : decode cX11_startMatch 68 = .ok (.aload_n 0, 1) := by decide +kernel
theorem dX11_startMatch_69 : decode cX11_startMatch 69 = .ok (.getfield 33, 3) := by decide +kernel
theorem dX11_startMatch_72 : decode cX11_startMatch 72 = .ok (.aload_n 0, 1) := by decide +kernel
theorem dX11_startMatch_73 : decode cX11_startMatch 73 = .ok (.getfield 37, 3) := by decide +kernel
theorem dX11_startMatch_76 : decode cX11_startMatch 76 = .ok (.aload_n 0, 1) := by decide +kernel
theorem dX11_startMatch_77 : decode cX11_startMatch 77 = .ok (.getfield 92, 3) := by decide +kernel
theorem dX11_startMatch_80 : decode cX11_startMatch 80 = .ok (.getfield 137, 3) := by decide +kernel
theorem dX11_startMatch_83 : decode cX11_startMatch 83 = .ok (.iload_n 1, 1) := by decide +kernel
theorem dX11_startMatch_84 : decode cX11_startMatch 84 = .ok (.aaload, 1) := by decide +kernel
theorem dX11_startMatch_85 : decode cX11_startMatch 85 = .ok (.invokevirtual 141, 3) := by decide +kernel
theorem dX11_startMatch_88 : decode cX11_startMatch 88 = .ok (.iinc 1 1, 3) := by decide +kernel
theorem dX11_startMatch_91 : decode cX11_startMatch 91 = .ok (.goto (-52), 3) := by decide +kernel
theorem dX11_startMatch_94 : decode cX11_startMatch 94 = .ok (.aload_n 0, 1) := by decide +kernel
theorem dX11_startMatch_95 : decode cX11_startMatch 95 = .ok (.getfield 43, 3) := by decide +kernel
theorem dX11_startMatch_98 : decode cX11_startMatch 98 = .ok (.aload_n 0, 1) := by decide +kernel
theorem dX11_startMatch_99 : decode cX11_startMatch 99 = .ok (.getfield 71, 3) := by decide +kernel
theorem dX11_startMatch_102 : decode cX11_startMatch 102 = .ok (.getfield 123, 3) := by decide +kernel
theorem dX11_startMatch_105 : decode cX11_startMatch 105 = .ok (.aload_n 0, 1) := by decide +kernel
theorem dX11_startMatch_106 : decode cX11_startMatch 106 = .ok (.getfield 71, 3) := by decide +kernel
theorem dX11_startMatch_109 : decode cX11_startMatch 109 = .ok (.getfield 145, 3) := by decide +kernel
theorem dX11_startMatch_112 : decode cX11_startMatch 112 = .ok (.invokevirtual 148, 3) := by decide +kernel
theorem dX11_startMatch_115 : decode cX11_startMatch 115 = .ok (.aload_n 0, 1) := by decide +kernel
theorem dX11_startMatch_116 : decode cX11_startMatch 116 = .ok (.getfield 53, 3) := by decide +kernel
theorem dX11_startMatch_119 : decode cX11_startMatch 119 = .ok (.invokevirtual 150, 3) := by decide +kernel
theorem dX11_startMatch_122 : decode cX11_startMatch 122 = .ok (.aload_n 0, 1) := by decide +kernel
theorem dX11_startMatch_123 : decode cX11_startMatch 123 = .ok (.getfield 60, 3) := by decide +kernel
theorem dX11_startMatch_126 : decode cX11_startMatch 126 = .ok (.iconst 0, 1) := by decide +kernel
theorem dX11_startMatch_127 : decode cX11_startMatch 127 = .ok (.putfield 153, 3) := by decide +kernel
theorem dX11_startMatch_130 : decode cX11_startMatch 130 = .ok (.return_, 1) := by decide +kernel
theorem dX11_fault_0 : decode cX11_fault 0 = .ok (.iload_n 1, 1) := by decide +kernel
theorem dX11_fault_1 : decode cX11_fault 1 = .ok (.ifCond .ne 11, 3) := by decide +kernel
theorem dX11_fault_4 : decode cX11_fault 4 = .ok (.aload_n 0, 1) := by decide +kernel
theorem dX11_fault_5 : decode cX11_fault 5 = .ok (.getfield 83, 3) := by decide +kernel
theorem dX11_fault_8 : decode cX11_fault 8 = .ok (.getfield 156, 3) := by decide +kernel
theorem dX11_fault_11 : decode cX11_fault 11 = .ok (.ireturn, 1) := by decide +kernel
theorem dX11_fault_12 : decode cX11_fault 12 = .ok (.iload_n 1, 1) := by decide +kernel
theorem dX11_fault_13 : decode cX11_fault 13 = .ok (.iconst 1, 1) := by decide +kernel
theorem dX11_fault_14 : decode cX11_fault 14 = .ok (.if_icmp .ne 13, 3) := by decide +kernel
theorem dX11_fault_17 : decode cX11_fault 17 = .ok (.aload_n 0, 1) := by decide +kernel
theorem dX11_fault_18 : decode cX11_fault 18 = .ok (.getfield 83, 3) := by decide +kernel
theorem dX11_fault_21 : decode cX11_fault 21 = .ok (.getfield 159, 3) := by decide +kernel
theorem dX11_fault_24 : decode cX11_fault 24 = .ok (.goto 4, 3) := by decide +kernel
theorem dX11_fault_27 : decode cX11_fault 27 = .ok (.iconst (-1), 1) := by decide +kernel
theorem dX11_fault_28 : decode cX11_fault 28 = .ok (.ireturn, 1) := by decide +kernel
theorem dX11_has_0 : decode cX11_has 0 = .ok (.iload_n 1, 1) := by decide +kernel
theorem dX11_has_1 : decode cX11_has 1 = .ok (.tableswitch 150 0 10 #[59, 70, 81, 89, 97, 105, 113, 121, 129, 137, 145], 59) := by decide +kernel
theorem dX11_has_60 : decode cX11_has 60 = .ok (.aload_n 0, 1) := by decide +kernel
theorem dX11_has_61 : decode cX11_has 61 = .ok (.getfield 71, 3) := by decide +kernel
theorem dX11_has_64 : decode cX11_has 64 = .ok (.getfield 162, 3) := by decide +kernel
theorem dX11_has_67 : decode cX11_has 67 = .ok (.getfield 166, 3) := by decide +kernel
theorem dX11_has_70 : decode cX11_has 70 = .ok (.ireturn, 1) := by decide +kernel
theorem dX11_has_71 : decode cX11_has 71 = .ok (.aload_n 0, 1) := by decide +kernel
theorem dX11_has_72 : decode cX11_has 72 = .ok (.getfield 71, 3) := by decide +kernel
theorem dX11_has_75 : decode cX11_has 75 = .ok (.getfield 162, 3) := by decide +kernel
theorem dX11_has_78 : decode cX11_has 78 = .ok (.getfield 170, 3) := by decide +kernel
theorem dX11_has_81 : decode cX11_has 81 = .ok (.ireturn, 1) := by decide +kernel
theorem dX11_has_82 : decode cX11_has 82 = .ok (.aload_n 0, 1) := by decide +kernel
theorem dX11_has_83 : decode cX11_has 83 = .ok (.getfield 71, 3) := by decide +kernel
theorem dX11_has_86 : decode cX11_has 86 = .ok (.getfield 130, 3) := by decide +kernel
theorem dX11_has_89 : decode cX11_has 89 = .ok (.ireturn, 1) := by decide +kernel
theorem dX11_has_90 : decode cX11_has 90 = .ok (.aload_n 0, 1) := by decide +kernel
theorem dX11_has_91 : decode cX11_has 91 = .ok (.getfield 71, 3) := by decide +kernel
theorem dX11_has_94 : decode cX11_has 94 = .ok (.getfield 173, 3) := by decide +kernel
theorem dX11_has_97 : decode cX11_has 97 = .ok (.ireturn, 1) := by decide +kernel
theorem dX11_has_98 : decode cX11_has 98 = .ok (.aload_n 0, 1) := by decide +kernel
theorem dX11_has_99 : decode cX11_has 99 = .ok (.getfield 43, 3) := by decide +kernel
theorem dX11_has_102 : decode cX11_has 102 = .ok (.getfield 176, 3) := by decide +kernel
theorem dX11_has_105 : decode cX11_has 105 = .ok (.ireturn, 1) := by decide +kernel
theorem dX11_has_106 : decode cX11_has 106 = .ok (.aload_n 0, 1) := by decide +kernel
theorem dX11_has_107 : decode cX11_has 107 = .ok (.getfield 43, 3) := by decide +kernel
theorem dX11_has_110 : decode cX11_has 110 = .ok (.getfield 177, 3) := by decide +kernel
theorem dX11_has_113 : decode cX11_has 113 = .ok (.ireturn, 1) := by decide +kernel
theorem dX11_has_114 : decode cX11_has 114 = .ok (.aload_n 0, 1) := by decide +kernel
theorem dX11_has_115 : decode cX11_has 115 = .ok (.getfield 43, 3) := by decide +kernel
theorem dX11_has_118 : decode cX11_has 118 = .ok (.getfield 180, 3) := by decide +kernel
theorem dX11_has_121 : decode cX11_has 121 = .ok (.ireturn, 1) := by decide +kernel
theorem dX11_has_122 : decode cX11_has 122 = .ok (.aload_n 0, 1) := by decide +kernel
theorem dX11_has_123 : decode cX11_has 123 = .ok (.getfield 53, 3) := by decide +kernel
theorem dX11_has_126 : decode cX11_has 126 = .ok (.invokevirtual 181, 3) := by decide +kernel
theorem dX11_has_129 : decode cX11_has 129 = .ok (.ireturn, 1) := by decide +kernel
theorem dX11_has_130 : decode cX11_has 130 = .ok (.aload_n 0, 1) := by decide +kernel
theorem dX11_has_131 : decode cX11_has 131 = .ok (.getfield 60, 3) := by decide +kernel
theorem dX11_has_134 : decode cX11_has 134 = .ok (.getfield 153, 3) := by decide +kernel
theorem dX11_has_137 : decode cX11_has 137 = .ok (.ireturn, 1) := by decide +kernel
theorem dX11_has_138 : decode cX11_has 138 = .ok (.aload_n 0, 1) := by decide +kernel
theorem dX11_has_139 : decode cX11_has 139 = .ok (.getfield 53, 3) := by decide +kernel
theorem dX11_has_142 : decode cX11_has 142 = .ok (.getfield 185, 3) := by decide +kernel
theorem dX11_has_145 : decode cX11_has 145 = .ok (.ireturn, 1) := by decide +kernel
theorem dX11_has_146 : decode cX11_has 146 = .ok (.aload_n 0, 1) := by decide +kernel
theorem dX11_has_147 : decode cX11_has 147 = .ok (.getfield 96, 3) := by decide +kernel
theorem dX11_has_150 : decode cX11_has 150 = .ok (.ireturn, 1) := by decide +kernel
theorem dX11_has_151 : decode cX11_has 151 = .ok (.iconst (-1), 1) := by decide +kernel
theorem dX11_has_152 : decode cX11_has 152 = .ok (.ireturn, 1) := by decide +kernel
theorem dX11_letter_0 : decode cX11_letter 0 = .ok (.aload_n 0, 1) := by decide +kernel
theorem dX11_letter_1 : decode cX11_letter 1 = .ok (.getfield 71, 3) := by decide +kernel
theorem dX11_letter_4 : decode cX11_letter 4 = .ok (.getfield 162, 3) := by decide +kernel
theorem dX11_letter_7 : decode cX11_letter 7 = .ok (.astore 4, 2) := by decide +kernel
theorem dX11_letter_9 : decode cX11_letter 9 = .ok (.iload_n 3, 1) := by decide +kernel
theorem dX11_letter_10 : decode cX11_letter 10 = .ok (.ifCond .lt 13, 3) := by decide +kernel
theorem dX11_letter_13 : decode cX11_letter 13 = .ok (.iload_n 3, 1) := by decide +kernel
theorem dX11_letter_14 : decode cX11_letter 14 = .ok (.bipush 6, 2) := by decide +kernel
theorem dX11_letter_16 : decode cX11_letter 16 = .ok (.if_icmp .ge 7, 3) := by decide +kernel
theorem dX11_letter_19 : decode cX11_letter 19 = .ok (.iload_n 2, 1) := by decide +kernel
theorem dX11_letter_20 : decode cX11_letter 20 = .ok (.ifCond .ge 5, 3) := by decide +kernel
theorem dX11_letter_23 : decode cX11_letter 23 = .ok (.iconst (-1), 1) := by decide +kernel
theorem dX11_letter_24 : decode cX11_letter 24 = .ok (.ireturn, 1) := by decide +kernel
theorem dX11_letter_25 : decode cX11_letter 25 = .ok (.iload_n 1, 1) := by decide +kernel
theorem dX11_letter_26 : decode cX11_letter 26 = .ok (.ifCond .ne 24, 3) := by decide +kernel
theorem dX11_letter_29 : decode cX11_letter 29 = .ok (.aload 4, 2) := by decide +kernel
theorem dX11_letter_31 : decode cX11_letter 31 = .ok (.iload_n 2, 1) := by decide +kernel
theorem dX11_letter_32 : decode cX11_letter 32 = .ok (.invokevirtual 188, 3) := by decide +kernel
theorem dX11_letter_35 : decode cX11_letter 35 = .ok (.ifCond .eq 15, 3) := by decide +kernel
theorem dX11_letter_38 : decode cX11_letter 38 = .ok (.aload 4, 2) := by decide +kernel
theorem dX11_letter_40 : decode cX11_letter 40 = .ok (.getfield 191, 3) := by decide +kernel
theorem dX11_letter_43 : decode cX11_letter 43 = .ok (.iload_n 2, 1) := by decide +kernel
theorem dX11_letter_44 : decode cX11_letter 44 = .ok (.iaload, 1) := by decide +kernel
theorem dX11_letter_45 : decode cX11_letter 45 = .ok (.iload_n 3, 1) := by decide +kernel
theorem dX11_letter_46 : decode cX11_letter 46 = .ok (.invokestatic 194, 3) := by decide +kernel
theorem dX11_letter_49 : decode cX11_letter 49 = .ok (.ireturn, 1) := by decide +kernel
theorem dX11_letter_50 : decode cX11_letter 50 = .ok (.iload_n 1, 1) := by decide +kernel
theorem dX11_letter_51 : decode cX11_letter 51 = .ok (.iconst 1, 1) := by decide +kernel
theorem dX11_letter_52 : decode cX11_letter 52 = .ok (.if_icmp .ne 24, 3) := by decide +kernel
theorem dX11_letter_55 : decode cX11_letter 55 = .ok (.aload 4, 2) := by decide +kernel
theorem dX11_letter_57 : decode cX11_letter 57 = .ok (.iload_n 2, 1) := by decide +kernel
theorem dX11_letter_58 : decode cX11_letter 58 = .ok (.invokevirtual 198, 3) := by decide +kernel
theorem dX11_letter_61 : decode cX11_letter 61 = .ok (.ifCond .eq 15, 3) := by decide +kernel
theorem dX11_letter_64 : decode cX11_letter 64 = .ok (.aload 4, 2) := by decide +kernel
theorem dX11_letter_66 : decode cX11_letter 66 = .ok (.getfield 201, 3) := by decide +kernel
theorem dX11_letter_69 : decode cX11_letter 69 = .ok (.iload_n 2, 1) := by decide +kernel
theorem dX11_letter_70 : decode cX11_letter 70 = .ok (.iaload, 1) := by decide +kernel
theorem dX11_letter_71 : decode cX11_letter 71 = .ok (.iload_n 3, 1) := by decide +kernel
theorem dX11_letter_72 : decode cX11_letter 72 = .ok (.invokestatic 194, 3) := by decide +kernel
theorem dX11_letter_75 : decode cX11_letter 75 = .ok (.ireturn, 1) := by decide +kernel
theorem dX11_letter_76 : decode cX11_letter 76 = .ok (.iconst (-1), 1) := by decide +kernel
theorem dX11_letter_77 : decode cX11_letter 77 = .ok (.ireturn, 1) := by decide +kernel
theorem dX11_values_0 : decode cX11_values 0 = .ok (.aload_n 0, 1) := by decide +kernel
theorem dX11_values_1 : decode cX11_values 1 = .ok (.invokevirtual 204, 3) := by decide +kernel
theorem dX11_values_4 : decode cX11_values 4 = .ok (.ifCond .eq 22, 3) := by decide +kernel
theorem dX11_values_7 : decode cX11_values 7 = .ok (.iload_n 1, 1) := by decide +kernel
theorem dX11_values_8 : decode cX11_values 8 = .ok (.iconst (-1), 1) := by decide +kernel
theorem dX11_values_9 : decode cX11_values 9 = .ok (.if_icmp .eq 19, 3) := by decide +kernel
theorem dX11_values_12 : decode cX11_values 12 = .ok (.aload_n 0, 1) := by decide +kernel
theorem dX11_values_13 : decode cX11_values 13 = .ok (.getfield 71, 3) := by decide +kernel
theorem dX11_values_16 : decode cX11_values 16 = .ok (.getfield 162, 3) := by decide +kernel
theorem dX11_values_19 : decode cX11_values 19 = .ok (.iload_n 1, 1) := by decide +kernel
theorem dX11_values_20 : decode cX11_values 20 = .ok (.invokevirtual 188, 3) := by decide +kernel
theorem dX11_values_23 : decode cX11_values 23 = .ok (.ifCond .ne 5, 3) := by decide +kernel
theorem dX11_values_26 : decode cX11_values 26 = .ok (.iconst (-1), 1) := by decide +kernel
theorem dX11_values_27 : decode cX11_values 27 = .ok (.ireturn, 1) := by decide +kernel
theorem dX11_values_28 : decode cX11_values 28 = .ok (.aload_n 0, 1) := by decide +kernel
theorem dX11_values_29 : decode cX11_values 29 = .ok (.getfield 71, 3) := by decide +kernel
theorem dX11_values_32 : decode cX11_values 32 = .ok (.getfield 162, 3) := by decide +kernel
theorem dX11_values_35 : decode cX11_values 35 = .ok (.iload_n 1, 1) := by decide +kernel
theorem dX11_values_36 : decode cX11_values 36 = .ok (.invokevirtual 208, 3) := by decide +kernel
theorem dX11_values_39 : decode cX11_values 39 = .ok (.ireturn, 1) := by decide +kernel
theorem dX11_arm_0 : decode cX11_arm 0 = .ok (.aload_n 0, 1) := by decide +kernel
theorem dX11_arm_1 : decode cX11_arm 1 = .ok (.getfield 43, 3) := by decide +kernel
theorem dX11_arm_4 : decode cX11_arm 4 = .ok (.iload_n 1, 1) := by decide +kernel
theorem dX11_arm_5 : decode cX11_arm 5 = .ok (.invokevirtual 212, 3) := by decide +kernel
theorem dX11_arm_8 : decode cX11_arm 8 = .ok (.istore_n 3, 1) := by decide +kernel
theorem dX11_arm_9 : decode cX11_arm 9 = .ok (.iload_n 3, 1) := by decide +kernel
theorem dX11_arm_10 : decode cX11_arm 10 = .ok (.iconst (-1), 1) := by decide +kernel
theorem dX11_arm_11 : decode cX11_arm 11 = .ok (.if_icmp .ne 5, 3) := by decide +kernel
theorem dX11_arm_14 : decode cX11_arm 14 = .ok (.iconst (-1), 1) := by decide +kernel
theorem dX11_arm_15 : decode cX11_arm 15 = .ok (.ireturn, 1) := by decide +kernel
theorem dX11_arm_16 : decode cX11_arm 16 = .ok (.iload_n 2, 1) := by decide +kernel
theorem dX11_arm_17 : decode cX11_arm 17 = .ok (.tableswitch 72 0 4 #[35, 37, 46, 60, 66], 35) := by decide +kernel
theorem dX11_arm_52 : decode cX11_arm 52 = .ok (.iload_n 3, 1) := by decide +kernel
theorem dX11_arm_53 : decode cX11_arm 53 = .ok (.ireturn, 1) := by decide +kernel
theorem dX11_arm_54 : decode cX11_arm 54 = .ok (.aload_n 0, 1) := by decide +kernel
theorem dX11_arm_55 : decode cX11_arm 55 = .ok (.getfield 71, 3) := by decide +kernel
theorem dX11_arm_58 : decode cX11_arm 58 = .ok (.iload_n 3, 1) := by decide +kernel
theorem dX11_arm_59 : decode cX11_arm 59 = .ok (.invokevirtual 215, 3) := by decide +kernel
theorem dX11_arm_62 : decode cX11_arm 62 = .ok (.ireturn, 1) := by decide +kernel
theorem dX11_arm_63 : decode cX11_arm 63 = .ok (.aload_n 0, 1) := by decide +kernel
theorem dX11_arm_64 : decode cX11_arm 64 = .ok (.iload_n 1, 1) := by decide +kernel
theorem dX11_arm_65 : decode cX11_arm 65 = .ok (.invokevirtual 218, 3) := by decide +kernel
theorem dX11_arm_68 : decode cX11_arm 68 = .ok (.ifCond .eq 7, 3) := by decide +kernel
theorem dX11_arm_71 : decode cX11_arm 71 = .ok (.iconst 1, 1) := by decide +kernel
theorem dX11_arm_72 : decode cX11_arm 72 = .ok (.goto 4, 3) := by decide +kernel
theorem dX11_arm_75 : decode cX11_arm 75 = .ok (.iconst 0, 1) := by decide +kernel
theorem dX11_arm_76 : decode cX11_arm 76 = .ok (.ireturn, 1) := by decide +kernel
theorem dX11_arm_77 : decode cX11_arm 77 = .ok (.aload_n 0, 1) := by decide +kernel
theorem dX11_arm_78 : decode cX11_arm 78 = .ok (.iload_n 3, 1) := by decide +kernel
theorem dX11_arm_79 : decode cX11_arm 79 = .ok (.invokevirtual 221, 3) := by decide +kernel
theorem dX11_arm_82 : decode cX11_arm 82 = .ok (.ireturn, 1) := by decide +kernel
theorem dX11_arm_83 : decode cX11_arm 83 = .ok (.aload_n 0, 1) := by decide +kernel
theorem dX11_arm_84 : decode cX11_arm 84 = .ok (.iload_n 1, 1) := by decide +kernel
theorem dX11_arm_85 : decode cX11_arm 85 = .ok (.invokevirtual 224, 3) := by decide +kernel
theorem dX11_arm_88 : decode cX11_arm 88 = .ok (.ireturn, 1) := by decide +kernel
theorem dX11_arm_89 : decode cX11_arm 89 = .ok (.iconst (-1), 1) := by decide +kernel
theorem dX11_arm_90 : decode cX11_arm 90 = .ok (.ireturn, 1) := by decide +kernel
theorem dX11_isUseful_0 : decode cX11_isUseful 0 = .ok (.aload_n 0, 1) := by decide +kernel
theorem dX11_isUseful_1 : decode cX11_isUseful 1 = .ok (.getfield 43, 3) := by decide +kernel
theorem dX11_isUseful_4 : decode cX11_isUseful 4 = .ok (.iload_n 1, 1) := by decide +kernel
theorem dX11_isUseful_5 : decode cX11_isUseful 5 = .ok (.invokevirtual 212, 3) := by decide +kernel
theorem dX11_isUseful_8 : decode cX11_isUseful 8 = .ok (.istore_n 2, 1) := by decide +kernel
theorem dX11_isUseful_9 : decode cX11_isUseful 9 = .ok (.aload_n 0, 1) := by decide +kernel
theorem dX11_isUseful_10 : decode cX11_isUseful 10 = .ok (.getfield 43, 3) := by decide +kernel
theorem dX11_isUseful_13 : decode cX11_isUseful 13 = .ok (.aload_n 0, 1) := by decide +kernel
theorem dX11_isUseful_14 : decode cX11_isUseful 14 = .ok (.getfield 71, 3) := by decide +kernel
theorem dX11_isUseful_17 : decode cX11_isUseful 17 = .ok (.iload_n 1, 1) := by decide +kernel
theorem dX11_isUseful_18 : decode cX11_isUseful 18 = .ok (.invokevirtual 227, 3) := by decide +kernel
theorem dX11_isUseful_21 : decode cX11_isUseful 21 = .ok (.istore_n 3, 1) := by decide +kernel
theorem dX11_isUseful_22 : decode cX11_isUseful 22 = .ok (.iconst 0, 1) := by decide +kernel
theorem dX11_isUseful_23 : decode cX11_isUseful 23 = .ok (.istore 4, 2) := by decide +kernel
theorem dX11_isUseful_25 : decode cX11_isUseful 25 = .ok (.iload 4, 2) := by decide +kernel
theorem dX11_isUseful_27 : decode cX11_isUseful 27 = .ok (.aload_n 0, 1) := by decide +kernel
theorem dX11_isUseful_28 : decode cX11_isUseful 28 = .ok (.getfield 33, 3) := by decide +kernel
theorem dX11_isUseful_31 : decode cX11_isUseful 31 = .ok (.getfield 231, 3) := by decide +kernel
theorem dX11_isUseful_34 : decode cX11_isUseful 34 = .ok (.if_icmp .ge 39, 3) := by decide +kernel
theorem dX11_isUseful_37 : decode cX11_isUseful 37 = .ok (.aload_n 0, 1) := by decide +kernel
theorem dX11_isUseful_38 : decode cX11_isUseful 38 = .ok (.getfield 33, 3) := by decide +kernel
theorem dX11_isUseful_41 : decode cX11_isUseful 41 = .ok (.getfield 232, 3) := by decide +kernel
theorem dX11_isUseful_44 : decode cX11_isUseful 44 = .ok (.iload 4, 2) := by decide +kernel
theorem dX11_isUseful_46 : decode cX11_isUseful 46 = .ok (.iaload, 1) := by decide +kernel
theorem dX11_isUseful_47 : decode cX11_isUseful 47 = .ok (.istore 5, 2) := by decide +kernel
theorem dX11_isUseful_49 : decode cX11_isUseful 49 = .ok (.iload 5, 2) := by decide +kernel
theorem dX11_isUseful_51 : decode cX11_isUseful 51 = .ok (.iload_n 2, 1) := by decide +kernel
theorem dX11_isUseful_52 : decode cX11_isUseful 52 = .ok (.invokestatic 234, 3) := by decide +kernel
theorem dX11_isUseful_55 : decode cX11_isUseful 55 = .ok (.ifCond .eq 12, 3) := by decide +kernel
theorem dX11_isUseful_58 : decode cX11_isUseful 58 = .ok (.iload 5, 2) := by decide +kernel
theorem dX11_isUseful_60 : decode cX11_isUseful 60 = .ok (.iload_n 3, 1) := by decide +kernel
theorem dX11_isUseful_61 : decode cX11_isUseful 61 = .ok (.iand, 1) := by decide +kernel
theorem dX11_isUseful_62 : decode cX11_isUseful 62 = .ok (.ifCond .ne 5, 3) := by decide +kernel
theorem dX11_isUseful_65 : decode cX11_isUseful 65 = .ok (.iconst 1, 1) := by decide +kernel
theorem dX11_isUseful_66 : decode cX11_isUseful 66 = .ok (.ireturn, 1) := by decide +kernel
theorem dX11_isUseful_67 : decode cX11_isUseful 67 = .ok (.iinc 4 1, 3) := by decide +kernel
theorem dX11_isUseful_70 : decode cX11_isUseful 70 = .ok (.goto (-45), 3) := by decide +kernel
theorem dX11_isUseful_73 : decode cX11_isUseful 73 = .ok (.iconst 0, 1) := by decide +kernel
theorem dX11_isUseful_74 : decode cX11_isUseful 74 = .ok (.ireturn, 1) := by decide +kernel
theorem dX11_rowsFitting_0 : decode cX11_rowsFitting 0 = .ok (.iconst 0, 1) := by decide +kernel
theorem dX11_rowsFitting_1 : decode cX11_rowsFitting 1 = .ok (.istore_n 2, 1) := by decide +kernel
theorem dX11_rowsFitting_2 : decode cX11_rowsFitting 2 = .ok (.iconst 0, 1) := by decide +kernel
theorem dX11_rowsFitting_3 : decode cX11_rowsFitting 3 = .ok (.istore_n 3, 1) := by decide +kernel
theorem dX11_rowsFitting_4 : decode cX11_rowsFitting 4 = .ok (.iload_n 3, 1) := by decide +kernel
theorem dX11_rowsFitting_5 : decode cX11_rowsFitting 5 = .ok (.aload_n 0, 1) := by decide +kernel
theorem dX11_rowsFitting_6 : decode cX11_rowsFitting 6 = .ok (.getfield 33, 3) := by decide +kernel
theorem dX11_rowsFitting_9 : decode cX11_rowsFitting 9 = .ok (.getfield 231, 3) := by decide +kernel
theorem dX11_rowsFitting_12 : decode cX11_rowsFitting 12 = .ok (.if_icmp .ge 37, 3) := by decide +kernel
theorem dX11_rowsFitting_15 : decode cX11_rowsFitting 15 = .ok (.aload_n 0, 1) := by decide +kernel
theorem dX11_rowsFitting_16 : decode cX11_rowsFitting 16 = .ok (.getfield 33, 3) := by decide +kernel
theorem dX11_rowsFitting_19 : decode cX11_rowsFitting 19 = .ok (.getfield 232, 3) := by decide +kernel
theorem dX11_rowsFitting_22 : decode cX11_rowsFitting 22 = .ok (.iload_n 3, 1) := by decide +kernel
theorem dX11_rowsFitting_23 : decode cX11_rowsFitting 23 = .ok (.iaload, 1) := by decide +kernel
theorem dX11_rowsFitting_24 : decode cX11_rowsFitting 24 = .ok (.iload_n 1, 1) := by decide +kernel
theorem dX11_rowsFitting_25 : decode cX11_rowsFitting 25 = .ok (.invokestatic 234, 3) := by decide +kernel
theorem dX11_rowsFitting_28 : decode cX11_rowsFitting 28 = .ok (.ifCond .eq 15, 3) := by decide +kernel
theorem dX11_rowsFitting_31 : decode cX11_rowsFitting 31 = .ok (.iload_n 2, 1) := by decide +kernel
theorem dX11_rowsFitting_32 : decode cX11_rowsFitting 32 = .ok (.aload_n 0, 1) := by decide +kernel
theorem dX11_rowsFitting_33 : decode cX11_rowsFitting 33 = .ok (.getfield 33, 3) := by decide +kernel
theorem dX11_rowsFitting_36 : decode cX11_rowsFitting 36 = .ok (.getfield 238, 3) := by decide +kernel
theorem dX11_rowsFitting_39 : decode cX11_rowsFitting 39 = .ok (.iload_n 3, 1) := by decide +kernel
theorem dX11_rowsFitting_40 : decode cX11_rowsFitting 40 = .ok (.iaload, 1) := by decide +kernel
theorem dX11_rowsFitting_41 : decode cX11_rowsFitting 41 = .ok (.iadd, 1) := by decide +kernel
theorem dX11_rowsFitting_42 : decode cX11_rowsFitting 42 = .ok (.istore_n 2, 1) := by decide +kernel
theorem dX11_rowsFitting_43 : decode cX11_rowsFitting 43 = .ok (.iinc 3 1, 3) := by decide +kernel
theorem dX11_rowsFitting_46 : decode cX11_rowsFitting 46 = .ok (.goto (-42), 3) := by decide +kernel
theorem dX11_rowsFitting_49 : decode cX11_rowsFitting 49 = .ok (.iload_n 2, 1) := by decide +kernel
theorem dX11_rowsFitting_50 : decode cX11_rowsFitting 50 = .ok (.ireturn, 1) := by decide +kernel
theorem dX11_rowsTaken_0 : decode cX11_rowsTaken 0 = .ok (.iconst 0, 1) := by decide +kernel
theorem dX11_rowsTaken_1 : decode cX11_rowsTaken 1 = .ok (.istore_n 2, 1) := by decide +kernel
theorem dX11_rowsTaken_2 : decode cX11_rowsTaken 2 = .ok (.iconst 0, 1) := by decide +kernel
theorem dX11_rowsTaken_3 : decode cX11_rowsTaken 3 = .ok (.istore_n 3, 1) := by decide +kernel
theorem dX11_rowsTaken_4 : decode cX11_rowsTaken 4 = .ok (.iload_n 3, 1) := by decide +kernel
theorem dX11_rowsTaken_5 : decode cX11_rowsTaken 5 = .ok (.aload_n 0, 1) := by decide +kernel
theorem dX11_rowsTaken_6 : decode cX11_rowsTaken 6 = .ok (.getfield 33, 3) := by decide +kernel
theorem dX11_rowsTaken_9 : decode cX11_rowsTaken 9 = .ok (.getfield 231, 3) := by decide +kernel
theorem dX11_rowsTaken_12 : decode cX11_rowsTaken 12 = .ok (.if_icmp .ge 52, 3) := by decide +kernel
theorem dX11_rowsTaken_15 : decode cX11_rowsTaken 15 = .ok (.aload_n 0, 1) := by decide +kernel
theorem dX11_rowsTaken_16 : decode cX11_rowsTaken 16 = .ok (.getfield 43, 3) := by decide +kernel
theorem dX11_rowsTaken_19 : decode cX11_rowsTaken 19 = .ok (.aload_n 0, 1) := by decide +kernel
theorem dX11_rowsTaken_20 : decode cX11_rowsTaken 20 = .ok (.getfield 71, 3) := by decide +kernel
theorem dX11_rowsTaken_23 : decode cX11_rowsTaken 23 = .ok (.aload_n 0, 1) := by decide +kernel
theorem dX11_rowsTaken_24 : decode cX11_rowsTaken 24 = .ok (.getfield 33, 3) := by decide +kernel
theorem dX11_rowsTaken_27 : decode cX11_rowsTaken 27 = .ok (.getfield 232, 3) := by decide +kernel
theorem dX11_rowsTaken_30 : decode cX11_rowsTaken 30 = .ok (.iload_n 3, 1) := by decide +kernel
theorem dX11_rowsTaken_31 : decode cX11_rowsTaken 31 = .ok (.iaload, 1) := by decide +kernel
theorem dX11_rowsTaken_32 : decode cX11_rowsTaken 32 = .ok (.aload_n 0, 1) := by decide +kernel
theorem dX11_rowsTaken_33 : decode cX11_rowsTaken 33 = .ok (.getfield 43, 3) := by decide +kernel
theorem dX11_rowsTaken_36 : decode cX11_rowsTaken 36 = .ok (.getfield 177, 3) := by decide +kernel
theorem dX11_rowsTaken_39 : decode cX11_rowsTaken 39 = .ok (.invokevirtual 241, 3) := by decide +kernel
end
section
theorem dX11_rowsTaken_42 : decode cX11_rowsTaken 42 = .ok (.iload_n 1, 1) := by decide +kernel
theorem dX11_rowsTaken_43 : decode cX11_rowsTaken 43 = .ok (.if_icmp .ne 15, 3) := by decide +kernel
theorem dX11_rowsTaken_46 : decode cX11_rowsTaken 46 = .ok (.iload_n 2, 1) := by decide +kernel
theorem dX11_rowsTaken_47 : decode cX11_rowsTaken 47 = .ok (.aload_n 0, 1) := by decide +kernel
theorem dX11_rowsTaken_48 : decode cX11_rowsTaken 48 = .ok (.getfield 33, 3) := by decide +kernel
theorem dX11_rowsTaken_51 : decode cX11_rowsTaken 51 = .ok (.getfield 238, 3) := by decide +kernel
theorem dX11_rowsTaken_54 : decode cX11_rowsTaken 54 = .ok (.iload_n 3, 1) := by decide +kernel
theorem dX11_rowsTaken_55 : decode cX11_rowsTaken 55 = .ok (.iaload, 1) := by decide +kernel
theorem dX11_rowsTaken_56 : decode cX11_rowsTaken 56 = .ok (.iadd, 1) := by decide +kernel
theorem dX11_rowsTaken_57 : decode cX11_rowsTaken 57 = .ok (.istore_n 2, 1) := by decide +kernel
theorem dX11_rowsTaken_58 : decode cX11_rowsTaken 58 = .ok (.iinc 3 1, 3) := by decide +kernel
theorem dX11_rowsTaken_61 : decode cX11_rowsTaken 61 = .ok (.goto (-57), 3) := by decide +kernel
theorem dX11_rowsTaken_64 : decode cX11_rowsTaken 64 = .ok (.iload_n 2, 1) := by decide +kernel
theorem dX11_rowsTaken_65 : decode cX11_rowsTaken 65 = .ok (.ireturn, 1) := by decide +kernel
theorem dX11_fits_0 : decode cX11_fits 0 = .ok (.aload_n 0, 1) := by decide +kernel
theorem dX11_fits_1 : decode cX11_fits 1 = .ok (.getfield 43, 3) := by decide +kernel
theorem dX11_fits_4 : decode cX11_fits 4 = .ok (.iload_n 1, 1) := by decide +kernel
theorem dX11_fits_5 : decode cX11_fits 5 = .ok (.invokevirtual 212, 3) := by decide +kernel
theorem dX11_fits_8 : decode cX11_fits 8 = .ok (.istore 4, 2) := by decide +kernel
theorem dX11_fits_10 : decode cX11_fits 10 = .ok (.iload 4, 2) := by decide +kernel
theorem dX11_fits_12 : decode cX11_fits 12 = .ok (.iconst (-1), 1) := by decide +kernel
theorem dX11_fits_13 : decode cX11_fits 13 = .ok (.if_icmp .eq 18, 3) := by decide +kernel
theorem dX11_fits_16 : decode cX11_fits 16 = .ok (.iload_n 2, 1) := by decide +kernel
theorem dX11_fits_17 : decode cX11_fits 17 = .ok (.ifCond .lt 14, 3) := by decide +kernel
theorem dX11_fits_20 : decode cX11_fits 20 = .ok (.iload_n 2, 1) := by decide +kernel
theorem dX11_fits_21 : decode cX11_fits 21 = .ok (.aload_n 0, 1) := by decide +kernel
theorem dX11_fits_22 : decode cX11_fits 22 = .ok (.getfield 71, 3) := by decide +kernel
theorem dX11_fits_25 : decode cX11_fits 25 = .ok (.getfield 130, 3) := by decide +kernel
theorem dX11_fits_28 : decode cX11_fits 28 = .ok (.if_icmp .lt 5, 3) := by decide +kernel
theorem dX11_fits_31 : decode cX11_fits 31 = .ok (.iconst (-1), 1) := by decide +kernel
theorem dX11_fits_32 : decode cX11_fits 32 = .ok (.ireturn, 1) := by decide +kernel
theorem dX11_fits_33 : decode cX11_fits 33 = .ok (.iload_n 3, 1) := by decide +kernel
theorem dX11_fits_34 : decode cX11_fits 34 = .ok (.ifCond .lt 16, 3) := by decide +kernel
theorem dX11_fits_37 : decode cX11_fits 37 = .ok (.iload_n 3, 1) := by decide +kernel
theorem dX11_fits_38 : decode cX11_fits 38 = .ok (.aload_n 0, 1) := by decide +kernel
theorem dX11_fits_39 : decode cX11_fits 39 = .ok (.getfield 71, 3) := by decide +kernel
theorem dX11_fits_42 : decode cX11_fits 42 = .ok (.getfield 245, 3) := by decide +kernel
theorem dX11_fits_45 : decode cX11_fits 45 = .ok (.iload_n 2, 1) := by decide +kernel
theorem dX11_fits_46 : decode cX11_fits 46 = .ok (.iaload, 1) := by decide +kernel
theorem dX11_fits_47 : decode cX11_fits 47 = .ok (.if_icmp .lt 5, 3) := by decide +kernel
theorem dX11_fits_50 : decode cX11_fits 50 = .ok (.iconst (-1), 1) := by decide +kernel
theorem dX11_fits_51 : decode cX11_fits 51 = .ok (.ireturn, 1) := by decide +kernel
theorem dX11_fits_52 : decode cX11_fits 52 = .ok (.aload_n 0, 1) := by decide +kernel
theorem dX11_fits_53 : decode cX11_fits 53 = .ok (.getfield 71, 3) := by decide +kernel
theorem dX11_fits_56 : decode cX11_fits 56 = .ok (.iload_n 2, 1) := by decide +kernel
theorem dX11_fits_57 : decode cX11_fits 57 = .ok (.iload_n 3, 1) := by decide +kernel
theorem dX11_fits_58 : decode cX11_fits 58 = .ok (.invokevirtual 246, 3) := by decide +kernel
theorem dX11_fits_61 : decode cX11_fits 61 = .ok (.iload 4, 2) := by decide +kernel
theorem dX11_fits_63 : decode cX11_fits 63 = .ok (.invokestatic 234, 3) := by decide +kernel
theorem dX11_fits_66 : decode cX11_fits 66 = .ok (.ifCond .eq 7, 3) := by decide +kernel
theorem dX11_fits_69 : decode cX11_fits 69 = .ok (.iconst 1, 1) := by decide +kernel
theorem dX11_fits_70 : decode cX11_fits 70 = .ok (.goto 4, 3) := by decide +kernel
theorem dX11_fits_73 : decode cX11_fits 73 = .ok (.iconst 0, 1) := by decide +kernel
theorem dX11_fits_74 : decode cX11_fits 74 = .ok (.ireturn, 1) := by decide +kernel
theorem dX11_holds_0 : decode cX11_holds 0 = .ok (.aload_n 0, 1) := by decide +kernel
theorem dX11_holds_1 : decode cX11_holds 1 = .ok (.getfield 43, 3) := by decide +kernel
theorem dX11_holds_4 : decode cX11_holds 4 = .ok (.iload_n 1, 1) := by decide +kernel
theorem dX11_holds_5 : decode cX11_holds 5 = .ok (.invokevirtual 212, 3) := by decide +kernel
theorem dX11_holds_8 : decode cX11_holds 8 = .ok (.istore_n 3, 1) := by decide +kernel
theorem dX11_holds_9 : decode cX11_holds 9 = .ok (.aload_n 0, 1) := by decide +kernel
theorem dX11_holds_10 : decode cX11_holds 10 = .ok (.getfield 43, 3) := by decide +kernel
theorem dX11_holds_13 : decode cX11_holds 13 = .ok (.iload_n 2, 1) := by decide +kernel
theorem dX11_holds_14 : decode cX11_holds 14 = .ok (.invokevirtual 212, 3) := by decide +kernel
theorem dX11_holds_17 : decode cX11_holds 17 = .ok (.istore 4, 2) := by decide +kernel
theorem dX11_holds_19 : decode cX11_holds 19 = .ok (.iload_n 3, 1) := by decide +kernel
theorem dX11_holds_20 : decode cX11_holds 20 = .ok (.iconst (-1), 1) := by decide +kernel
theorem dX11_holds_21 : decode cX11_holds 21 = .ok (.if_icmp .eq 9, 3) := by decide +kernel
theorem dX11_holds_24 : decode cX11_holds 24 = .ok (.iload 4, 2) := by decide +kernel
theorem dX11_holds_26 : decode cX11_holds 26 = .ok (.iconst (-1), 1) := by decide +kernel
theorem dX11_holds_27 : decode cX11_holds 27 = .ok (.if_icmp .ne 5, 3) := by decide +kernel
theorem dX11_holds_30 : decode cX11_holds 30 = .ok (.iconst (-1), 1) := by decide +kernel
theorem dX11_holds_31 : decode cX11_holds 31 = .ok (.ireturn, 1) := by decide +kernel
theorem dX11_holds_32 : decode cX11_holds 32 = .ok (.iconst 0, 1) := by decide +kernel
theorem dX11_holds_33 : decode cX11_holds 33 = .ok (.istore 5, 2) := by decide +kernel
theorem dX11_holds_35 : decode cX11_holds 35 = .ok (.iload 5, 2) := by decide +kernel
theorem dX11_holds_37 : decode cX11_holds 37 = .ok (.aload_n 0, 1) := by decide +kernel
theorem dX11_holds_38 : decode cX11_holds 38 = .ok (.getfield 33, 3) := by decide +kernel
theorem dX11_holds_41 : decode cX11_holds 41 = .ok (.getfield 231, 3) := by decide +kernel
theorem dX11_holds_44 : decode cX11_holds 44 = .ok (.if_icmp .ge 42, 3) := by decide +kernel
theorem dX11_holds_47 : decode cX11_holds 47 = .ok (.aload_n 0, 1) := by decide +kernel
theorem dX11_holds_48 : decode cX11_holds 48 = .ok (.getfield 33, 3) := by decide +kernel
theorem dX11_holds_51 : decode cX11_holds 51 = .ok (.getfield 232, 3) := by decide +kernel
theorem dX11_holds_54 : decode cX11_holds 54 = .ok (.iload 5, 2) := by decide +kernel
theorem dX11_holds_56 : decode cX11_holds 56 = .ok (.iaload, 1) := by decide +kernel
theorem dX11_holds_57 : decode cX11_holds 57 = .ok (.istore 6, 2) := by decide +kernel
theorem dX11_holds_59 : decode cX11_holds 59 = .ok (.iload 6, 2) := by decide +kernel
theorem dX11_holds_61 : decode cX11_holds 61 = .ok (.iload 4, 2) := by decide +kernel
theorem dX11_holds_63 : decode cX11_holds 63 = .ok (.invokestatic 234, 3) := by decide +kernel
theorem dX11_holds_66 : decode cX11_holds 66 = .ok (.ifCond .eq 14, 3) := by decide +kernel
theorem dX11_holds_69 : decode cX11_holds 69 = .ok (.iload 6, 2) := by decide +kernel
theorem dX11_holds_71 : decode cX11_holds 71 = .ok (.iload_n 3, 1) := by decide +kernel
theorem dX11_holds_72 : decode cX11_holds 72 = .ok (.invokestatic 234, 3) := by decide +kernel
theorem dX11_holds_75 : decode cX11_holds 75 = .ok (.ifCond .ne 5, 3) := by decide +kernel
theorem dX11_holds_78 : decode cX11_holds 78 = .ok (.iconst 0, 1) := by decide +kernel
theorem dX11_holds_79 : decode cX11_holds 79 = .ok (.ireturn, 1) := by decide +kernel
theorem dX11_holds_80 : decode cX11_holds 80 = .ok (.iinc 5 1, 3) := by decide +kernel
theorem dX11_holds_83 : decode cX11_holds 83 = .ok (.goto (-48), 3) := by decide +kernel
theorem dX11_holds_86 : decode cX11_holds 86 = .ok (.iconst 1, 1) := by decide +kernel
theorem dX11_holds_87 : decode cX11_holds 87 = .ok (.ireturn, 1) := by decide +kernel
theorem dX11_missing_0 : decode cX11_missing 0 = .ok (.aload_n 0, 1) := by decide +kernel
theorem dX11_missing_1 : decode cX11_missing 1 = .ok (.invokevirtual 204, 3) := by decide +kernel
theorem dX11_missing_4 : decode cX11_missing 4 = .ok (.ifCond .eq 8, 3) := by decide +kernel
theorem dX11_missing_7 : decode cX11_missing 7 = .ok (.iload_n 1, 1) := by decide +kernel
theorem dX11_missing_8 : decode cX11_missing 8 = .ok (.iconst (-1), 1) := by decide +kernel
theorem dX11_missing_9 : decode cX11_missing 9 = .ok (.if_icmp .ge 5, 3) := by decide +kernel
theorem dX11_missing_12 : decode cX11_missing 12 = .ok (.iconst (-1), 1) := by decide +kernel
theorem dX11_missing_13 : decode cX11_missing 13 = .ok (.ireturn, 1) := by decide +kernel
theorem dX11_missing_14 : decode cX11_missing 14 = .ok (.aload_n 0, 1) := by decide +kernel
theorem dX11_missing_15 : decode cX11_missing 15 = .ok (.getfield 43, 3) := by decide +kernel
theorem dX11_missing_18 : decode cX11_missing 18 = .ok (.aload_n 0, 1) := by decide +kernel
theorem dX11_missing_19 : decode cX11_missing 19 = .ok (.getfield 71, 3) := by decide +kernel
theorem dX11_missing_22 : decode cX11_missing 22 = .ok (.aload_n 0, 1) := by decide +kernel
theorem dX11_missing_23 : decode cX11_missing 23 = .ok (.getfield 43, 3) := by decide +kernel
theorem dX11_missing_26 : decode cX11_missing 26 = .ok (.getfield 176, 3) := by decide +kernel
theorem dX11_missing_29 : decode cX11_missing 29 = .ok (.invokevirtual 227, 3) := by decide +kernel
theorem dX11_missing_32 : decode cX11_missing 32 = .ok (.istore_n 2, 1) := by decide +kernel
theorem dX11_missing_33 : decode cX11_missing 33 = .ok (.iload_n 1, 1) := by decide +kernel
theorem dX11_missing_34 : decode cX11_missing 34 = .ok (.iconst (-1), 1) := by decide +kernel
theorem dX11_missing_35 : decode cX11_missing 35 = .ok (.if_icmp .ne 11, 3) := by decide +kernel
theorem dX11_missing_38 : decode cX11_missing 38 = .ok (.aload_n 0, 1) := by decide +kernel
theorem dX11_missing_39 : decode cX11_missing 39 = .ok (.iload_n 2, 1) := by decide +kernel
theorem dX11_missing_40 : decode cX11_missing 40 = .ok (.invokevirtual 249, 3) := by decide +kernel
theorem dX11_missing_43 : decode cX11_missing 43 = .ok (.goto 9, 3) := by decide +kernel
theorem dX11_missing_46 : decode cX11_missing 46 = .ok (.aload_n 0, 1) := by decide +kernel
theorem dX11_missing_47 : decode cX11_missing 47 = .ok (.iload_n 2, 1) := by decide +kernel
theorem dX11_missing_48 : decode cX11_missing 48 = .ok (.iload_n 1, 1) := by decide +kernel
theorem dX11_missing_49 : decode cX11_missing 49 = .ok (.invokevirtual 252, 3) := by decide +kernel
theorem dX11_missing_52 : decode cX11_missing 52 = .ok (.ireturn, 1) := by decide +kernel
theorem dX11_countMissing_0 : decode cX11_countMissing 0 = .ok (.iconst 0, 1) := by decide +kernel
theorem dX11_countMissing_1 : decode cX11_countMissing 1 = .ok (.istore_n 2, 1) := by decide +kernel
theorem dX11_countMissing_2 : decode cX11_countMissing 2 = .ok (.iconst 0, 1) := by decide +kernel
theorem dX11_countMissing_3 : decode cX11_countMissing 3 = .ok (.istore_n 3, 1) := by decide +kernel
theorem dX11_countMissing_4 : decode cX11_countMissing 4 = .ok (.iload_n 3, 1) := by decide +kernel
theorem dX11_countMissing_5 : decode cX11_countMissing 5 = .ok (.aload_n 0, 1) := by decide +kernel
theorem dX11_countMissing_6 : decode cX11_countMissing 6 = .ok (.getfield 33, 3) := by decide +kernel
theorem dX11_countMissing_9 : decode cX11_countMissing 9 = .ok (.getfield 231, 3) := by decide +kernel
theorem dX11_countMissing_12 : decode cX11_countMissing 12 = .ok (.if_icmp .ge 35, 3) := by decide +kernel
theorem dX11_countMissing_15 : decode cX11_countMissing 15 = .ok (.aload_n 0, 1) := by decide +kernel
theorem dX11_countMissing_16 : decode cX11_countMissing 16 = .ok (.getfield 33, 3) := by decide +kernel
theorem dX11_countMissing_19 : decode cX11_countMissing 19 = .ok (.getfield 232, 3) := by decide +kernel
theorem dX11_countMissing_22 : decode cX11_countMissing 22 = .ok (.iload_n 3, 1) := by decide +kernel
theorem dX11_countMissing_23 : decode cX11_countMissing 23 = .ok (.iaload, 1) := by decide +kernel
theorem dX11_countMissing_24 : decode cX11_countMissing 24 = .ok (.iload_n 1, 1) := by decide +kernel
theorem dX11_countMissing_25 : decode cX11_countMissing 25 = .ok (.iand, 1) := by decide +kernel
theorem dX11_countMissing_26 : decode cX11_countMissing 26 = .ok (.ifCond .ne 15, 3) := by decide +kernel
theorem dX11_countMissing_29 : decode cX11_countMissing 29 = .ok (.iload_n 2, 1) := by decide +kernel
theorem dX11_countMissing_30 : decode cX11_countMissing 30 = .ok (.aload_n 0, 1) := by decide +kernel
theorem dX11_countMissing_31 : decode cX11_countMissing 31 = .ok (.getfield 33, 3) := by decide +kernel
theorem dX11_countMissing_34 : decode cX11_countMissing 34 = .ok (.getfield 238, 3) := by decide +kernel
theorem dX11_countMissing_37 : decode cX11_countMissing 37 = .ok (.iload_n 3, 1) := by decide +kernel
theorem dX11_countMissing_38 : decode cX11_countMissing 38 = .ok (.iaload, 1) := by decide +kernel
theorem dX11_countMissing_39 : decode cX11_countMissing 39 = .ok (.iadd, 1) := by decide +kernel
theorem dX11_countMissing_40 : decode cX11_countMissing 40 = .ok (.istore_n 2, 1) := by decide +kernel
theorem dX11_countMissing_41 : decode cX11_countMissing 41 = .ok (.iinc 3 1, 3) := by decide +kernel
theorem dX11_countMissing_44 : decode cX11_countMissing 44 = .ok (.goto (-40), 3) := by decide +kernel
theorem dX11_countMissing_47 : decode cX11_countMissing 47 = .ok (.iload_n 2, 1) := by decide +kernel
theorem dX11_countMissing_48 : decode cX11_countMissing 48 = .ok (.ireturn, 1) := by decide +kernel
theorem dX11_findMissing_0 : decode cX11_findMissing 0 = .ok (.iconst 0, 1) := by decide +kernel
theorem dX11_findMissing_1 : decode cX11_findMissing 1 = .ok (.istore_n 3, 1) := by decide +kernel
theorem dX11_findMissing_2 : decode cX11_findMissing 2 = .ok (.iconst 0, 1) := by decide +kernel
theorem dX11_findMissing_3 : decode cX11_findMissing 3 = .ok (.istore 4, 2) := by decide +kernel
theorem dX11_findMissing_5 : decode cX11_findMissing 5 = .ok (.iload 4, 2) := by decide +kernel
theorem dX11_findMissing_7 : decode cX11_findMissing 7 = .ok (.aload_n 0, 1) := by decide +kernel
theorem dX11_findMissing_8 : decode cX11_findMissing 8 = .ok (.getfield 71, 3) := by decide +kernel
theorem dX11_findMissing_11 : decode cX11_findMissing 11 = .ok (.getfield 173, 3) := by decide +kernel
theorem dX11_findMissing_14 : decode cX11_findMissing 14 = .ok (.if_icmp .ge 34, 3) := by decide +kernel
theorem dX11_findMissing_17 : decode cX11_findMissing 17 = .ok (.aload_n 0, 1) := by decide +kernel
theorem dX11_findMissing_18 : decode cX11_findMissing 18 = .ok (.getfield 71, 3) := by decide +kernel
theorem dX11_findMissing_21 : decode cX11_findMissing 21 = .ok (.iload 4, 2) := by decide +kernel
theorem dX11_findMissing_23 : decode cX11_findMissing 23 = .ok (.invokevirtual 255, 3) := by decide +kernel
theorem dX11_findMissing_26 : decode cX11_findMissing 26 = .ok (.iload_n 1, 1) := by decide +kernel
theorem dX11_findMissing_27 : decode cX11_findMissing 27 = .ok (.iand, 1) := by decide +kernel
theorem dX11_findMissing_28 : decode cX11_findMissing 28 = .ok (.ifCond .ne 14, 3) := by decide +kernel
theorem dX11_findMissing_31 : decode cX11_findMissing 31 = .ok (.iload_n 3, 1) := by decide +kernel
theorem dX11_findMissing_32 : decode cX11_findMissing 32 = .ok (.iload_n 2, 1) := by decide +kernel
theorem dX11_findMissing_33 : decode cX11_findMissing 33 = .ok (.if_icmp .ne 6, 3) := by decide +kernel
theorem dX11_findMissing_36 : decode cX11_findMissing 36 = .ok (.iload 4, 2) := by decide +kernel
theorem dX11_findMissing_38 : decode cX11_findMissing 38 = .ok (.ireturn, 1) := by decide +kernel
theorem dX11_findMissing_39 : decode cX11_findMissing 39 = .ok (.iinc 3 1, 3) := by decide +kernel
theorem dX11_findMissing_42 : decode cX11_findMissing 42 = .ok (.iinc 4 1, 3) := by decide +kernel
theorem dX11_findMissing_45 : decode cX11_findMissing 45 = .ok (.goto (-40), 3) := by decide +kernel
theorem dX11_findMissing_48 : decode cX11_findMissing 48 = .ok (.iconst (-1), 1) := by decide +kernel
theorem dX11_findMissing_49 : decode cX11_findMissing 49 = .ok (.ireturn, 1) := by decide +kernel
theorem dX11_taken_0 : decode cX11_taken 0 = .ok (.aload_n 0, 1) := by decide +kernel
theorem dX11_taken_1 : decode cX11_taken 1 = .ok (.getfield 71, 3) := by decide +kernel
theorem dX11_taken_4 : decode cX11_taken 4 = .ok (.iload_n 1, 1) := by decide +kernel
theorem dX11_taken_5 : decode cX11_taken 5 = .ok (.invokevirtual 258, 3) := by decide +kernel
theorem dX11_taken_8 : decode cX11_taken 8 = .ok (.ifCond .ne 5, 3) := by decide +kernel
theorem dX11_taken_11 : decode cX11_taken 11 = .ok (.iconst (-1), 1) := by decide +kernel
theorem dX11_taken_12 : decode cX11_taken 12 = .ok (.ireturn, 1) := by decide +kernel
theorem dX11_taken_13 : decode cX11_taken 13 = .ok (.aload_n 0, 1) := by decide +kernel
theorem dX11_taken_14 : decode cX11_taken 14 = .ok (.getfield 43, 3) := by decide +kernel
theorem dX11_taken_17 : decode cX11_taken 17 = .ok (.aload_n 0, 1) := by decide +kernel
theorem dX11_taken_18 : decode cX11_taken 18 = .ok (.getfield 71, 3) := by decide +kernel
theorem dX11_taken_21 : decode cX11_taken 21 = .ok (.aload_n 0, 1) := by decide +kernel
theorem dX11_taken_22 : decode cX11_taken 22 = .ok (.getfield 71, 3) := by decide +kernel
theorem dX11_taken_25 : decode cX11_taken 25 = .ok (.iload_n 1, 1) := by decide +kernel
theorem dX11_taken_26 : decode cX11_taken 26 = .ok (.invokevirtual 255, 3) := by decide +kernel
theorem dX11_taken_29 : decode cX11_taken 29 = .ok (.aload_n 0, 1) := by decide +kernel
theorem dX11_taken_30 : decode cX11_taken 30 = .ok (.getfield 43, 3) := by decide +kernel
theorem dX11_taken_33 : decode cX11_taken 33 = .ok (.getfield 177, 3) := by decide +kernel
theorem dX11_taken_36 : decode cX11_taken 36 = .ok (.invokevirtual 241, 3) := by decide +kernel
theorem dX11_taken_39 : decode cX11_taken 39 = .ok (.ireturn, 1) := by decide +kernel
theorem dX11_row_0 : decode cX11_row 0 = .ok (.aload_n 0, 1) := by decide +kernel
theorem dX11_row_1 : decode cX11_row 1 = .ok (.getfield 83, 3) := by decide +kernel
theorem dX11_row_4 : decode cX11_row 4 = .ok (.aload_n 0, 1) := by decide +kernel
theorem dX11_row_5 : decode cX11_row 5 = .ok (.getfield 14, 3) := by decide +kernel
theorem dX11_row_8 : decode cX11_row 8 = .ok (.aload_n 0, 1) := by decide +kernel
theorem dX11_row_9 : decode cX11_row 9 = .ok (.getfield 71, 3) := by decide +kernel
theorem dX11_row_12 : decode cX11_row 12 = .ok (.invokevirtual 261, 3) := by decide +kernel
theorem dX11_row_15 : decode cX11_row 15 = .ok (.istore_n 1, 1) := by decide +kernel
theorem dX11_row_16 : decode cX11_row 16 = .ok (.aload_n 0, 1) := by decide +kernel
theorem dX11_row_17 : decode cX11_row 17 = .ok (.getfield 14, 3) := by decide +kernel
theorem dX11_row_20 : decode cX11_row 20 = .ok (.iconst 0, 1) := by decide +kernel
theorem dX11_row_21 : decode cX11_row 21 = .ok (.putfield 100, 3) := by decide +kernel
theorem dX11_row_24 : decode cX11_row 24 = .ok (.iload_n 1, 1) := by decide +kernel
theorem dX11_row_25 : decode cX11_row 25 = .ok (.iconst (-1), 1) := by decide +kernel
theorem dX11_row_26 : decode cX11_row 26 = .ok (.if_icmp .ne 9, 3) := by decide +kernel
theorem dX11_row_29 : decode cX11_row 29 = .ok (.aload_n 0, 1) := by decide +kernel
theorem dX11_row_30 : decode cX11_row 30 = .ok (.iconst 1, 1) := by decide +kernel
theorem dX11_row_31 : decode cX11_row 31 = .ok (.invokevirtual 103, 3) := by decide +kernel
theorem dX11_row_34 : decode cX11_row 34 = .ok (.pop, 1) := by decide +kernel
theorem dX11_row_35 : decode cX11_row 35 = .ok (.iload_n 1, 1) := by decide +kernel
theorem dX11_row_36 : decode cX11_row 36 = .ok (.ireturn, 1) := by decide +kernel
theorem dX11_text_0 : decode cX11_text 0 = .ok (.aload_n 0, 1) := by decide +kernel
theorem dX11_text_1 : decode cX11_text 1 = .ok (.getfield 71, 3) := by decide +kernel
theorem dX11_text_4 : decode cX11_text 4 = .ok (.iload_n 1, 1) := by decide +kernel
theorem dX11_text_5 : decode cX11_text 5 = .ok (.invokevirtual 258, 3) := by decide +kernel
theorem dX11_text_8 : decode cX11_text 8 = .ok (.ifCond .ne 5, 3) := by decide +kernel
theorem dX11_text_11 : decode cX11_text 11 = .ok (.iconst (-1), 1) := by decide +kernel
theorem dX11_text_12 : decode cX11_text 12 = .ok (.ireturn, 1) := by decide +kernel
theorem dX11_text_13 : decode cX11_text 13 = .ok (.aload_n 0, 1) := by decide +kernel
theorem dX11_text_14 : decode cX11_text 14 = .ok (.getfield 18, 3) := by decide +kernel
theorem dX11_text_17 : decode cX11_text 17 = .ok (.iconst 0, 1) := by decide +kernel
theorem dX11_text_18 : decode cX11_text 18 = .ok (.putfield 100, 3) := by decide +kernel
theorem dX11_text_21 : decode cX11_text 21 = .ok (.iconst 0, 1) := by decide +kernel
theorem dX11_text_22 : decode cX11_text 22 = .ok (.istore_n 2, 1) := by decide +kernel
theorem dX11_text_23 : decode cX11_text 23 = .ok (.iload_n 2, 1) := by decide +kernel
theorem dX11_text_24 : decode cX11_text 24 = .ok (.aload_n 0, 1) := by decide +kernel
theorem dX11_text_25 : decode cX11_text 25 = .ok (.getfield 71, 3) := by decide +kernel
theorem dX11_text_28 : decode cX11_text 28 = .ok (.getfield 130, 3) := by decide +kernel
theorem dX11_text_31 : decode cX11_text 31 = .ok (.if_icmp .ge 55, 3) := by decide +kernel
theorem dX11_text_34 : decode cX11_text 34 = .ok (.iload_n 2, 1) := by decide +kernel
theorem dX11_text_35 : decode cX11_text 35 = .ok (.ifCond .le 12, 3) := by decide +kernel
theorem dX11_text_38 : decode cX11_text 38 = .ok (.aload_n 0, 1) := by decide +kernel
theorem dX11_text_39 : decode cX11_text 39 = .ok (.getfield 18, 3) := by decide +kernel
theorem dX11_text_42 : decode cX11_text 42 = .ok (.bipush 44, 2) := by decide +kernel
theorem dX11_text_44 : decode cX11_text 44 = .ok (.invokevirtual 264, 3) := by decide +kernel
theorem dX11_text_47 : decode cX11_text 47 = .ok (.aload_n 0, 1) := by decide +kernel
theorem dX11_text_48 : decode cX11_text 48 = .ok (.getfield 18, 3) := by decide +kernel
theorem dX11_text_51 : decode cX11_text 51 = .ok (.aload_n 0, 1) := by decide +kernel
theorem dX11_text_52 : decode cX11_text 52 = .ok (.getfield 71, 3) := by decide +kernel
theorem dX11_text_55 : decode cX11_text 55 = .ok (.getfield 162, 3) := by decide +kernel
theorem dX11_text_58 : decode cX11_text 58 = .ok (.aload_n 0, 1) := by decide +kernel
theorem dX11_text_59 : decode cX11_text 59 = .ok (.getfield 71, 3) := by decide +kernel
theorem dX11_text_62 : decode cX11_text 62 = .ok (.getfield 266, 3) := by decide +kernel
theorem dX11_text_65 : decode cX11_text 65 = .ok (.iload_n 2, 1) := by decide +kernel
theorem dX11_text_66 : decode cX11_text 66 = .ok (.iaload, 1) := by decide +kernel
theorem dX11_text_67 : decode cX11_text 67 = .ok (.aload_n 0, 1) := by decide +kernel
theorem dX11_text_68 : decode cX11_text 68 = .ok (.getfield 71, 3) := by decide +kernel
theorem dX11_text_71 : decode cX11_text 71 = .ok (.iload_n 1, 1) := by decide +kernel
theorem dX11_text_72 : decode cX11_text 72 = .ok (.iload_n 2, 1) := by decide +kernel
theorem dX11_text_73 : decode cX11_text 73 = .ok (.invokevirtual 269, 3) := by decide +kernel
theorem dX11_text_76 : decode cX11_text 76 = .ok (.iconst 0, 1) := by decide +kernel
theorem dX11_text_77 : decode cX11_text 77 = .ok (.invokestatic 272, 3) := by decide +kernel
theorem dX11_text_80 : decode cX11_text 80 = .ok (.iinc 2 1, 3) := by decide +kernel
theorem dX11_text_83 : decode cX11_text 83 = .ok (.goto (-60), 3) := by decide +kernel
theorem dX11_text_86 : decode cX11_text 86 = .ok (.aload_n 0, 1) := by decide +kernel
theorem dX11_text_87 : decode cX11_text 87 = .ok (.getfield 18, 3) := by decide +kernel
theorem dX11_text_90 : decode cX11_text 90 = .ok (.getfield 100, 3) := by decide +kernel
theorem dX11_text_93 : decode cX11_text 93 = .ok (.ireturn, 1) := by decide +kernel
theorem dX11_writeValue_0 : decode cX11_writeValue 0 = .ok (.iload_n 2, 1) := by decide +kernel
theorem dX11_writeValue_1 : decode cX11_writeValue 1 = .ok (.iconst (-1), 1) := by decide +kernel
theorem dX11_writeValue_2 : decode cX11_writeValue 2 = .ok (.if_icmp .ne 9, 3) := by decide +kernel
theorem dX11_writeValue_5 : decode cX11_writeValue 5 = .ok (.aload_n 0, 1) := by decide +kernel
theorem dX11_writeValue_6 : decode cX11_writeValue 6 = .ok (.iload_n 3, 1) := by decide +kernel
theorem dX11_writeValue_7 : decode cX11_writeValue 7 = .ok (.invokevirtual 276, 3) := by decide +kernel
theorem dX11_writeValue_10 : decode cX11_writeValue 10 = .ok (.return_, 1) := by decide +kernel
theorem dX11_writeValue_11 : decode cX11_writeValue 11 = .ok (.aload_n 1, 1) := by decide +kernel
theorem dX11_writeValue_12 : decode cX11_writeValue 12 = .ok (.iload_n 2, 1) := by decide +kernel
theorem dX11_writeValue_13 : decode cX11_writeValue 13 = .ok (.iload_n 3, 1) := by decide +kernel
theorem dX11_writeValue_14 : decode cX11_writeValue 14 = .ok (.invokevirtual 279, 3) := by decide +kernel
theorem dX11_writeValue_17 : decode cX11_writeValue 17 = .ok (.istore 5, 2) := by decide +kernel
theorem dX11_writeValue_19 : decode cX11_writeValue 19 = .ok (.iload 5, 2) := by decide +kernel
theorem dX11_writeValue_21 : decode cX11_writeValue 21 = .ok (.iconst (-1), 1) := by decide +kernel
theorem dX11_writeValue_22 : decode cX11_writeValue 22 = .ok (.if_icmp .eq 9, 3) := by decide +kernel
theorem dX11_writeValue_25 : decode cX11_writeValue 25 = .ok (.iload 4, 2) := by decide +kernel
theorem dX11_writeValue_27 : decode cX11_writeValue 27 = .ok (.iconst 4, 1) := by decide +kernel
theorem dX11_writeValue_28 : decode cX11_writeValue 28 = .ok (.if_icmp .le 4, 3) := by decide +kernel
theorem dX11_writeValue_31 : decode cX11_writeValue 31 = .ok (.return_, 1) := by decide +kernel
theorem dX11_writeValue_32 : decode cX11_writeValue 32 = .ok (.aload_n 0, 1) := by decide +kernel
theorem dX11_writeValue_33 : decode cX11_writeValue 33 = .ok (.aload_n 1, 1) := by decide +kernel
theorem dX11_writeValue_34 : decode cX11_writeValue 34 = .ok (.getfield 201, 3) := by decide +kernel
theorem dX11_writeValue_37 : decode cX11_writeValue 37 = .ok (.iload 5, 2) := by decide +kernel
theorem dX11_writeValue_39 : decode cX11_writeValue 39 = .ok (.iaload, 1) := by decide +kernel
theorem dX11_writeValue_40 : decode cX11_writeValue 40 = .ok (.invokevirtual 282, 3) := by decide +kernel
theorem dX11_writeValue_43 : decode cX11_writeValue 43 = .ok (.aload_n 1, 1) := by decide +kernel
theorem dX11_writeValue_44 : decode cX11_writeValue 44 = .ok (.iload 5, 2) := by decide +kernel
theorem dX11_writeValue_46 : decode cX11_writeValue 46 = .ok (.invokevirtual 285, 3) := by decide +kernel
theorem dX11_writeValue_49 : decode cX11_writeValue 49 = .ok (.istore 6, 2) := by decide +kernel
theorem dX11_writeValue_51 : decode cX11_writeValue 51 = .ok (.aload_n 1, 1) := by decide +kernel
theorem dX11_writeValue_52 : decode cX11_writeValue 52 = .ok (.getfield 288, 3) := by decide +kernel
theorem dX11_writeValue_55 : decode cX11_writeValue 55 = .ok (.iload 5, 2) := by decide +kernel
theorem dX11_writeValue_57 : decode cX11_writeValue 57 = .ok (.iaload, 1) := by decide +kernel
theorem dX11_writeValue_58 : decode cX11_writeValue 58 = .ok (.ifCond .eq 8, 3) := by decide +kernel
theorem dX11_writeValue_61 : decode cX11_writeValue 61 = .ok (.iload 6, 2) := by decide +kernel
theorem dX11_writeValue_63 : decode cX11_writeValue 63 = .ok (.ifCond .gt 4, 3) := by decide +kernel
theorem dX11_writeValue_66 : decode cX11_writeValue 66 = .ok (.return_, 1) := by decide +kernel
theorem dX11_writeValue_67 : decode cX11_writeValue 67 = .ok (.iload_n 3, 1) := by decide +kernel
theorem dX11_writeValue_68 : decode cX11_writeValue 68 = .ok (.aload_n 1, 1) := by decide +kernel
theorem dX11_writeValue_69 : decode cX11_writeValue 69 = .ok (.getfield 291, 3) := by decide +kernel
theorem dX11_writeValue_72 : decode cX11_writeValue 72 = .ok (.iload 5, 2) := by decide +kernel
theorem dX11_writeValue_74 : decode cX11_writeValue 74 = .ok (.iaload, 1) := by decide +kernel
theorem dX11_writeValue_75 : decode cX11_writeValue 75 = .ok (.isub, 1) := by decide +kernel
theorem dX11_writeValue_76 : decode cX11_writeValue 76 = .ok (.istore 7, 2) := by decide +kernel
theorem dX11_writeValue_78 : decode cX11_writeValue 78 = .ok (.aload_n 0, 1) := by decide +kernel
theorem dX11_writeValue_79 : decode cX11_writeValue 79 = .ok (.bipush 40, 2) := by decide +kernel
theorem dX11_writeValue_81 : decode cX11_writeValue 81 = .ok (.invokevirtual 264, 3) := by decide +kernel
theorem dX11_writeValue_84 : decode cX11_writeValue 84 = .ok (.aload_n 0, 1) := by decide +kernel
theorem dX11_writeValue_85 : decode cX11_writeValue 85 = .ok (.aload_n 1, 1) := by decide +kernel
theorem dX11_writeValue_86 : decode cX11_writeValue 86 = .ok (.aload_n 1, 1) := by decide +kernel
theorem dX11_writeValue_87 : decode cX11_writeValue 87 = .ok (.getfield 294, 3) := by decide +kernel
theorem dX11_writeValue_90 : decode cX11_writeValue 90 = .ok (.iload 5, 2) := by decide +kernel
theorem dX11_writeValue_92 : decode cX11_writeValue 92 = .ok (.iaload, 1) := by decide +kernel
theorem dX11_writeValue_93 : decode cX11_writeValue 93 = .ok (.iload 7, 2) := by decide +kernel
theorem dX11_writeValue_95 : decode cX11_writeValue 95 = .ok (.iload 6, 2) := by decide +kernel
theorem dX11_writeValue_97 : decode cX11_writeValue 97 = .ok (.idiv, 1) := by decide +kernel
theorem dX11_writeValue_98 : decode cX11_writeValue 98 = .ok (.iload 4, 2) := by decide +kernel
theorem dX11_writeValue_100 : decode cX11_writeValue 100 = .ok (.iconst 1, 1) := by decide +kernel
theorem dX11_writeValue_101 : decode cX11_writeValue 101 = .ok (.iadd, 1) := by decide +kernel
theorem dX11_writeValue_102 : decode cX11_writeValue 102 = .ok (.invokestatic 272, 3) := by decide +kernel
theorem dX11_writeValue_105 : decode cX11_writeValue 105 = .ok (.aload_n 1, 1) := by decide +kernel
theorem dX11_writeValue_106 : decode cX11_writeValue 106 = .ok (.getfield 288, 3) := by decide +kernel
theorem dX11_writeValue_109 : decode cX11_writeValue 109 = .ok (.iload 5, 2) := by decide +kernel
theorem dX11_writeValue_111 : decode cX11_writeValue 111 = .ok (.iaload, 1) := by decide +kernel
theorem dX11_writeValue_112 : decode cX11_writeValue 112 = .ok (.iconst 2, 1) := by decide +kernel
theorem dX11_writeValue_113 : decode cX11_writeValue 113 = .ok (.if_icmp .ne 30, 3) := by decide +kernel
theorem dX11_writeValue_116 : decode cX11_writeValue 116 = .ok (.aload_n 0, 1) := by decide +kernel
theorem dX11_writeValue_117 : decode cX11_writeValue 117 = .ok (.bipush 44, 2) := by decide +kernel
theorem dX11_writeValue_119 : decode cX11_writeValue 119 = .ok (.invokevirtual 264, 3) := by decide +kernel
theorem dX11_writeValue_122 : decode cX11_writeValue 122 = .ok (.aload_n 0, 1) := by decide +kernel
theorem dX11_writeValue_123 : decode cX11_writeValue 123 = .ok (.aload_n 1, 1) := by decide +kernel
theorem dX11_writeValue_124 : decode cX11_writeValue 124 = .ok (.aload_n 1, 1) := by decide +kernel
theorem dX11_writeValue_125 : decode cX11_writeValue 125 = .ok (.getfield 297, 3) := by decide +kernel
theorem dX11_writeValue_128 : decode cX11_writeValue 128 = .ok (.iload 5, 2) := by decide +kernel
theorem dX11_writeValue_130 : decode cX11_writeValue 130 = .ok (.iaload, 1) := by decide +kernel
theorem dX11_writeValue_131 : decode cX11_writeValue 131 = .ok (.iload 7, 2) := by decide +kernel
theorem dX11_writeValue_133 : decode cX11_writeValue 133 = .ok (.iload 6, 2) := by decide +kernel
theorem dX11_writeValue_135 : decode cX11_writeValue 135 = .ok (.irem, 1) := by decide +kernel
theorem dX11_writeValue_136 : decode cX11_writeValue 136 = .ok (.iload 4, 2) := by decide +kernel
theorem dX11_writeValue_138 : decode cX11_writeValue 138 = .ok (.iconst 1, 1) := by decide +kernel
theorem dX11_writeValue_139 : decode cX11_writeValue 139 = .ok (.iadd, 1) := by decide +kernel
theorem dX11_writeValue_140 : decode cX11_writeValue 140 = .ok (.invokestatic 272, 3) := by decide +kernel
theorem dX11_writeValue_143 : decode cX11_writeValue 143 = .ok (.aload_n 0, 1) := by decide +kernel
theorem dX11_writeValue_144 : decode cX11_writeValue 144 = .ok (.bipush 41, 2) := by decide +kernel
theorem dX11_writeValue_146 : decode cX11_writeValue 146 = .ok (.invokevirtual 264, 3) := by decide +kernel
theorem dX11_writeValue_149 : decode cX11_writeValue 149 = .ok (.return_, 1) := by decide +kernel
theorem dX11_octet_0 : decode cX11_octet 0 = .ok (.aload_n 0, 1) := by decide +kernel
theorem dX11_octet_1 : decode cX11_octet 1 = .ok (.getfield 18, 3) := by decide +kernel
theorem dX11_octet_4 : decode cX11_octet 4 = .ok (.iload_n 1, 1) := by decide +kernel
theorem dX11_octet_5 : decode cX11_octet 5 = .ok (.invokevirtual 300, 3) := by decide +kernel
theorem dX11_octet_8 : decode cX11_octet 8 = .ok (.ireturn, 1) := by decide +kernel
theorem dX11_tree_0 : decode cX11_tree 0 = .ok (.aload_n 0, 1) := by decide +kernel
theorem dX11_tree_1 : decode cX11_tree 1 = .ok (.invokevirtual 204, 3) := by decide +kernel
theorem dX11_tree_4 : decode cX11_tree 4 = .ok (.ifCond .eq 10, 3) := by decide +kernel
theorem dX11_tree_7 : decode cX11_tree 7 = .ok (.iload_n 1, 1) := by decide +kernel
theorem dX11_tree_8 : decode cX11_tree 8 = .ok (.invokestatic 303, 3) := by decide +kernel
theorem dX11_tree_11 : decode cX11_tree 11 = .ok (.ifCond .ne 5, 3) := by decide +kernel
theorem dX11_tree_14 : decode cX11_tree 14 = .ok (.iconst (-1), 1) := by decide +kernel
theorem dX11_tree_15 : decode cX11_tree 15 = .ok (.ireturn, 1) := by decide +kernel
theorem dX11_tree_16 : decode cX11_tree 16 = .ok (.aload_n 0, 1) := by decide +kernel
theorem dX11_tree_17 : decode cX11_tree 17 = .ok (.getfield 92, 3) := by decide +kernel
theorem dX11_tree_20 : decode cX11_tree 20 = .ok (.aload_n 0, 1) := by decide +kernel
theorem dX11_tree_21 : decode cX11_tree 21 = .ok (.getfield 43, 3) := by decide +kernel
theorem dX11_tree_24 : decode cX11_tree 24 = .ok (.iload_n 1, 1) := by decide +kernel
theorem dX11_tree_25 : decode cX11_tree 25 = .ok (.invokevirtual 306, 3) := by decide +kernel
theorem dX11_tree_28 : decode cX11_tree 28 = .ok (.lstore_n 3, 1) := by decide +kernel
theorem dX11_tree_29 : decode cX11_tree 29 = .ok (.iload_n 2, 1) := by decide +kernel
theorem dX11_tree_30 : decode cX11_tree 30 = .ok (.tableswitch 53 0 3 #[30, 35, 43, 48], 30) := by decide +kernel
theorem dX11_tree_60 : decode cX11_tree 60 = .ok (.lload_n 3, 1) := by decide +kernel
theorem dX11_tree_61 : decode cX11_tree 61 = .ok (.invokestatic 310, 3) := by decide +kernel
theorem dX11_tree_64 : decode cX11_tree 64 = .ok (.ireturn, 1) := by decide +kernel
theorem dX11_tree_65 : decode cX11_tree 65 = .ok (.aload_n 0, 1) := by decide +kernel
theorem dX11_tree_66 : decode cX11_tree 66 = .ok (.getfield 92, 3) := by decide +kernel
theorem dX11_tree_69 : decode cX11_tree 69 = .ok (.getfield 314, 3) := by decide +kernel
theorem dX11_tree_72 : decode cX11_tree 72 = .ok (.ireturn, 1) := by decide +kernel
theorem dX11_tree_73 : decode cX11_tree 73 = .ok (.lload_n 3, 1) := by decide +kernel
theorem dX11_tree_74 : decode cX11_tree 74 = .ok (.invokestatic 317, 3) := by decide +kernel
theorem dX11_tree_77 : decode cX11_tree 77 = .ok (.ireturn, 1) := by decide +kernel
theorem dX11_tree_78 : decode cX11_tree 78 = .ok (.lload_n 3, 1) := by decide +kernel
theorem dX11_tree_79 : decode cX11_tree 79 = .ok (.invokestatic 320, 3) := by decide +kernel
theorem dX11_tree_82 : decode cX11_tree 82 = .ok (.ireturn, 1) := by decide +kernel
theorem dX11_tree_83 : decode cX11_tree 83 = .ok (.iconst (-1), 1) := by decide +kernel
theorem dX11_tree_84 : decode cX11_tree 84 = .ok (.ireturn, 1) := by decide +kernel
theorem dX11_first_0 : decode cX11_first 0 = .ok (.aload_n 0, 1) := by decide +kernel
theorem dX11_first_1 : decode cX11_first 1 = .ok (.invokevirtual 204, 3) := by decide +kernel
theorem dX11_first_4 : decode cX11_first 4 = .ok (.ifCond .eq 10, 3) := by decide +kernel
theorem dX11_first_7 : decode cX11_first 7 = .ok (.iload_n 1, 1) := by decide +kernel
theorem dX11_first_8 : decode cX11_first 8 = .ok (.invokestatic 303, 3) := by decide +kernel
theorem dX11_first_11 : decode cX11_first 11 = .ok (.ifCond .ne 5, 3) := by decide +kernel
theorem dX11_first_14 : decode cX11_first 14 = .ok (.iconst (-1), 1) := by decide +kernel
theorem dX11_first_15 : decode cX11_first 15 = .ok (.ireturn, 1) := by decide +kernel
theorem dX11_first_16 : decode cX11_first 16 = .ok (.aload_n 0, 1) := by decide +kernel
theorem dX11_first_17 : decode cX11_first 17 = .ok (.getfield 92, 3) := by decide +kernel
theorem dX11_first_20 : decode cX11_first 20 = .ok (.aload_n 0, 1) := by decide +kernel
theorem dX11_first_21 : decode cX11_first 21 = .ok (.getfield 43, 3) := by decide +kernel
theorem dX11_first_24 : decode cX11_first 24 = .ok (.iload_n 1, 1) := by decide +kernel
theorem dX11_first_25 : decode cX11_first 25 = .ok (.invokevirtual 323, 3) := by decide +kernel
theorem dX11_first_28 : decode cX11_first 28 = .ok (.ireturn, 1) := by decide +kernel
theorem dX11_scopes_0 : decode cX11_scopes 0 = .ok (.aload_n 0, 1) := by decide +kernel
theorem dX11_scopes_1 : decode cX11_scopes 1 = .ok (.invokevirtual 204, 3) := by decide +kernel
theorem dX11_scopes_4 : decode cX11_scopes 4 = .ok (.ifCond .eq 10, 3) := by decide +kernel
theorem dX11_scopes_7 : decode cX11_scopes 7 = .ok (.iload_n 1, 1) := by decide +kernel
theorem dX11_scopes_8 : decode cX11_scopes 8 = .ok (.invokestatic 303, 3) := by decide +kernel
theorem dX11_scopes_11 : decode cX11_scopes 11 = .ok (.ifCond .ne 5, 3) := by decide +kernel
theorem dX11_scopes_14 : decode cX11_scopes 14 = .ok (.iconst (-1), 1) := by decide +kernel
theorem dX11_scopes_15 : decode cX11_scopes 15 = .ok (.ireturn, 1) := by decide +kernel
theorem dX11_scopes_16 : decode cX11_scopes 16 = .ok (.aload_n 0, 1) := by decide +kernel
theorem dX11_scopes_17 : decode cX11_scopes 17 = .ok (.getfield 92, 3) := by decide +kernel
theorem dX11_scopes_20 : decode cX11_scopes 20 = .ok (.aload_n 0, 1) := by decide +kernel
theorem dX11_scopes_21 : decode cX11_scopes 21 = .ok (.getfield 43, 3) := by decide +kernel
theorem dX11_scopes_24 : decode cX11_scopes 24 = .ok (.iload_n 1, 1) := by decide +kernel
theorem dX11_scopes_25 : decode cX11_scopes 25 = .ok (.invokevirtual 327, 3) := by decide +kernel
theorem dX11_scopes_28 : decode cX11_scopes 28 = .ok (.iload_n 2, 1) := by decide +kernel
theorem dX11_scopes_29 : decode cX11_scopes 29 = .ok (.tableswitch 72 0 3 #[31, 39, 47, 63], 31) := by decide +kernel
theorem dX11_scopes_60 : decode cX11_scopes 60 = .ok (.aload_n 0, 1) := by decide +kernel
theorem dX11_scopes_61 : decode cX11_scopes 61 = .ok (.getfield 92, 3) := by decide +kernel
theorem dX11_scopes_64 : decode cX11_scopes 64 = .ok (.getfield 331, 3) := by decide +kernel
theorem dX11_scopes_67 : decode cX11_scopes 67 = .ok (.ireturn, 1) := by decide +kernel
theorem dX11_scopes_68 : decode cX11_scopes 68 = .ok (.aload_n 0, 1) := by decide +kernel
end
