theorem dX10_measure_314 : decode cX10_measure 314 = .ok (.lor, 1) := by decide +kernel
theorem dX10_measure_315 : decode cX10_measure 315 = .ok (.lstore 11, 2) := by decide +kernel
theorem dX10_measure_317 : decode cX10_measure 317 = .ok (.aload_n 0, 1) := by decide +kernel
theorem dX10_measure_318 : decode cX10_measure 318 = .ok (.getfield 21, 3) := by decide +kernel
theorem dX10_measure_321 : decode cX10_measure 321 = .ok (.iload 4, 2) := by decide +kernel
theorem dX10_measure_323 : decode cX10_measure 323 = .ok (.aload_n 0, 1) := by decide +kernel
theorem dX10_measure_324 : decode cX10_measure 324 = .ok (.getfield 128, 3) := by decide +kernel
theorem dX10_measure_327 : decode cX10_measure 327 = .ok (.i2l, 1) := by decide +kernel
theorem dX10_measure_328 : decode cX10_measure 328 = .ok (.bipush 40, 2) := by decide +kernel
theorem dX10_measure_330 : decode cX10_measure 330 = .ok (.lshl, 1) := by decide +kernel
theorem dX10_measure_331 : decode cX10_measure 331 = .ok (.lload 11, 2) := by decide +kernel
theorem dX10_measure_333 : decode cX10_measure 333 = .ok (.lor, 1) := by decide +kernel
theorem dX10_measure_334 : decode cX10_measure 334 = .ok (.lastore, 1) := by decide +kernel
theorem dX10_measure_335 : decode cX10_measure 335 = .ok (.aload_n 0, 1) := by decide +kernel
theorem dX10_measure_336 : decode cX10_measure 336 = .ok (.getfield 21, 3) := by decide +kernel
theorem dX10_measure_339 : decode cX10_measure 339 = .ok (.iload 4, 2) := by decide +kernel
theorem dX10_measure_341 : decode cX10_measure 341 = .ok (.laload, 1) := by decide +kernel
theorem dX10_measure_342 : decode cX10_measure 342 = .ok (.lreturn, 1) := by decide +kernel
theorem dX10_nodesIn_0 : decode cX10_nodesIn 0 = .ok (.lload_n 0, 1) := by decide +kernel
theorem dX10_nodesIn_1 : decode cX10_nodesIn 1 = .ok (.ldc2_w 173, 3) := by decide +kernel
theorem dX10_nodesIn_4 : decode cX10_nodesIn 4 = .ok (.land, 1) := by decide +kernel
theorem dX10_nodesIn_5 : decode cX10_nodesIn 5 = .ok (.l2i, 1) := by decide +kernel
theorem dX10_nodesIn_6 : decode cX10_nodesIn 6 = .ok (.ireturn, 1) := by decide +kernel
theorem dX10_testsIn_0 : decode cX10_testsIn 0 = .ok (.lload_n 0, 1) := by decide +kernel
theorem dX10_testsIn_1 : decode cX10_testsIn 1 = .ok (.bipush 20, 2) := by decide +kernel
theorem dX10_testsIn_3 : decode cX10_testsIn 3 = .ok (.lushr, 1) := by decide +kernel
theorem dX10_testsIn_4 : decode cX10_testsIn 4 = .ok (.ldc2_w 175, 3) := by decide +kernel
theorem dX10_testsIn_7 : decode cX10_testsIn 7 = .ok (.land, 1) := by decide +kernel
theorem dX10_testsIn_8 : decode cX10_testsIn 8 = .ok (.l2i, 1) := by decide +kernel
theorem dX10_testsIn_9 : decode cX10_testsIn 9 = .ok (.ireturn, 1) := by decide +kernel
theorem dX10_longestIn_0 : decode cX10_longestIn 0 = .ok (.lload_n 0, 1) := by decide +kernel
theorem dX10_longestIn_1 : decode cX10_longestIn 1 = .ok (.bipush 37, 2) := by decide +kernel
theorem dX10_longestIn_3 : decode cX10_longestIn 3 = .ok (.lushr, 1) := by decide +kernel
theorem dX10_longestIn_4 : decode cX10_longestIn 4 = .ok (.ldc2_w 177, 3) := by decide +kernel
theorem dX10_longestIn_7 : decode cX10_longestIn 7 = .ok (.land, 1) := by decide +kernel
theorem dX10_longestIn_8 : decode cX10_longestIn 8 = .ok (.l2i, 1) := by decide +kernel
theorem dX10_longestIn_9 : decode cX10_longestIn 9 = .ok (.ireturn, 1) := by decide +kernel
theorem dX10_firstColumn_0 : decode cX10_firstColumn 0 = .ok (.aload_n 0, 1) := by decide +kernel
theorem dX10_firstColumn_1 : decode cX10_firstColumn 1 = .ok (.aload_n 1, 1) := by decide +kernel
theorem dX10_firstColumn_2 : decode cX10_firstColumn 2 = .ok (.putfield 33, 3) := by decide +kernel
theorem dX10_firstColumn_5 : decode cX10_firstColumn 5 = .ok (.aload_n 0, 1) := by decide +kernel
theorem dX10_firstColumn_6 : decode cX10_firstColumn 6 = .ok (.iload_n 2, 1) := by decide +kernel
theorem dX10_firstColumn_7 : decode cX10_firstColumn 7 = .ok (.putfield 80, 3) := by decide +kernel
theorem dX10_firstColumn_10 : decode cX10_firstColumn 10 = .ok (.aload_n 0, 1) := by decide +kernel
theorem dX10_firstColumn_11 : decode cX10_firstColumn 11 = .ok (.getfield 33, 3) := by decide +kernel
theorem dX10_firstColumn_14 : decode cX10_firstColumn 14 = .ok (.invokevirtual 134, 3) := by decide +kernel
theorem dX10_firstColumn_17 : decode cX10_firstColumn 17 = .ok (.istore_n 3, 1) := by decide +kernel
theorem dX10_firstColumn_18 : decode cX10_firstColumn 18 = .ok (.iconst 0, 1) := by decide +kernel
theorem dX10_firstColumn_19 : decode cX10_firstColumn 19 = .ok (.istore 4, 2) := by decide +kernel
theorem dX10_firstColumn_21 : decode cX10_firstColumn 21 = .ok (.iload 4, 2) := by decide +kernel
theorem dX10_firstColumn_23 : decode cX10_firstColumn 23 = .ok (.bipush 12, 2) := by decide +kernel
theorem dX10_firstColumn_25 : decode cX10_firstColumn 25 = .ok (.if_icmp .gt 67, 3) := by decide +kernel
theorem dX10_firstColumn_28 : decode cX10_firstColumn 28 = .ok (.aload_n 0, 1) := by decide +kernel
theorem dX10_firstColumn_29 : decode cX10_firstColumn 29 = .ok (.iload_n 3, 1) := by decide +kernel
theorem dX10_firstColumn_30 : decode cX10_firstColumn 30 = .ok (.aload_n 0, 1) := by decide +kernel
theorem dX10_firstColumn_31 : decode cX10_firstColumn 31 = .ok (.invokevirtual 138, 3) := by decide +kernel
theorem dX10_firstColumn_34 : decode cX10_firstColumn 34 = .ok (.invokevirtual 145, 3) := by decide +kernel
theorem dX10_firstColumn_37 : decode cX10_firstColumn 37 = .ok (.istore 5, 2) := by decide +kernel
theorem dX10_firstColumn_39 : decode cX10_firstColumn 39 = .ok (.aload_n 0, 1) := by decide +kernel
theorem dX10_firstColumn_40 : decode cX10_firstColumn 40 = .ok (.getfield 33, 3) := by decide +kernel
theorem dX10_firstColumn_43 : decode cX10_firstColumn 43 = .ok (.iload_n 3, 1) := by decide +kernel
theorem dX10_firstColumn_44 : decode cX10_firstColumn 44 = .ok (.invokevirtual 64, 3) := by decide +kernel
theorem dX10_firstColumn_47 : decode cX10_firstColumn 47 = .ok (.istore 6, 2) := by decide +kernel
theorem dX10_firstColumn_49 : decode cX10_firstColumn 49 = .ok (.iload 5, 2) := by decide +kernel
theorem dX10_firstColumn_51 : decode cX10_firstColumn 51 = .ok (.iconst (-1), 1) := by decide +kernel
theorem dX10_firstColumn_52 : decode cX10_firstColumn 52 = .ok (.if_icmp .ne 22, 3) := by decide +kernel
theorem dX10_firstColumn_55 : decode cX10_firstColumn 55 = .ok (.iload 6, 2) := by decide +kernel
theorem dX10_firstColumn_57 : decode cX10_firstColumn 57 = .ok (.iconst (-1), 1) := by decide +kernel
theorem dX10_firstColumn_58 : decode cX10_firstColumn 58 = .ok (.if_icmp .eq 16, 3) := by decide +kernel
theorem dX10_firstColumn_61 : decode cX10_firstColumn 61 = .ok (.aload_n 0, 1) := by decide +kernel
theorem dX10_firstColumn_62 : decode cX10_firstColumn 62 = .ok (.getfield 29, 3) := by decide +kernel
theorem dX10_firstColumn_65 : decode cX10_firstColumn 65 = .ok (.iload 6, 2) := by decide +kernel
theorem dX10_firstColumn_67 : decode cX10_firstColumn 67 = .ok (.invokevirtual 148, 3) := by decide +kernel
theorem dX10_firstColumn_70 : decode cX10_firstColumn 70 = .ok (.iconst (-1), 1) := by decide +kernel
theorem dX10_firstColumn_71 : decode cX10_firstColumn 71 = .ok (.if_icmp .ne 6, 3) := by decide +kernel
theorem dX10_firstColumn_74 : decode cX10_firstColumn 74 = .ok (.iload 5, 2) := by decide +kernel
theorem dX10_firstColumn_76 : decode cX10_firstColumn 76 = .ok (.ireturn, 1) := by decide +kernel
theorem dX10_firstColumn_77 : decode cX10_firstColumn 77 = .ok (.iload_n 3, 1) := by decide +kernel
theorem dX10_firstColumn_78 : decode cX10_firstColumn 78 = .ok (.iconst 1, 1) := by decide +kernel
theorem dX10_firstColumn_79 : decode cX10_firstColumn 79 = .ok (.iload 6, 2) := by decide +kernel
theorem dX10_firstColumn_81 : decode cX10_firstColumn 81 = .ok (.ishl, 1) := by decide +kernel
theorem dX10_firstColumn_82 : decode cX10_firstColumn 82 = .ok (.iconst (-1), 1) := by decide +kernel
theorem dX10_firstColumn_83 : decode cX10_firstColumn 83 = .ok (.ixor, 1) := by decide +kernel
theorem dX10_firstColumn_84 : decode cX10_firstColumn 84 = .ok (.iand, 1) := by decide +kernel
theorem dX10_firstColumn_85 : decode cX10_firstColumn 85 = .ok (.istore_n 3, 1) := by decide +kernel
theorem dX10_firstColumn_86 : decode cX10_firstColumn 86 = .ok (.iinc 4 1, 3) := by decide +kernel
theorem dX10_firstColumn_89 : decode cX10_firstColumn 89 = .ok (.goto (-68), 3) := by decide +kernel
theorem dX10_firstColumn_92 : decode cX10_firstColumn 92 = .ok (.iconst (-1), 1) := by decide +kernel
theorem dX10_firstColumn_93 : decode cX10_firstColumn 93 = .ok (.ireturn, 1) := by decide +kernel
theorem dX10_columnsAsked_0 : decode cX10_columnsAsked 0 = .ok (.aload_n 0, 1) := by decide +kernel
theorem dX10_columnsAsked_1 : decode cX10_columnsAsked 1 = .ok (.aload_n 1, 1) := by decide +kernel
theorem dX10_columnsAsked_2 : decode cX10_columnsAsked 2 = .ok (.putfield 33, 3) := by decide +kernel
theorem dX10_columnsAsked_5 : decode cX10_columnsAsked 5 = .ok (.aload_n 0, 1) := by decide +kernel
theorem dX10_columnsAsked_6 : decode cX10_columnsAsked 6 = .ok (.aload_n 1, 1) := by decide +kernel
theorem dX10_columnsAsked_7 : decode cX10_columnsAsked 7 = .ok (.getfield 179, 3) := by decide +kernel
theorem dX10_columnsAsked_10 : decode cX10_columnsAsked 10 = .ok (.putfield 80, 3) := by decide +kernel
theorem dX10_columnsAsked_13 : decode cX10_columnsAsked 13 = .ok (.aload_n 0, 1) := by decide +kernel
theorem dX10_columnsAsked_14 : decode cX10_columnsAsked 14 = .ok (.getfield 33, 3) := by decide +kernel
theorem dX10_columnsAsked_17 : decode cX10_columnsAsked 17 = .ok (.invokevirtual 134, 3) := by decide +kernel
theorem dX10_columnsAsked_20 : decode cX10_columnsAsked 20 = .ok (.istore_n 3, 1) := by decide +kernel
theorem dX10_columnsAsked_21 : decode cX10_columnsAsked 21 = .ok (.aload_n 0, 1) := by decide +kernel
theorem dX10_columnsAsked_22 : decode cX10_columnsAsked 22 = .ok (.invokevirtual 138, 3) := by decide +kernel
theorem dX10_columnsAsked_25 : decode cX10_columnsAsked 25 = .ok (.istore 4, 2) := by decide +kernel
theorem dX10_columnsAsked_27 : decode cX10_columnsAsked 27 = .ok (.iconst 0, 1) := by decide +kernel
theorem dX10_columnsAsked_28 : decode cX10_columnsAsked 28 = .ok (.istore 5, 2) := by decide +kernel
theorem dX10_columnsAsked_30 : decode cX10_columnsAsked 30 = .ok (.iconst 0, 1) := by decide +kernel
theorem dX10_columnsAsked_31 : decode cX10_columnsAsked 31 = .ok (.istore 6, 2) := by decide +kernel
theorem dX10_columnsAsked_33 : decode cX10_columnsAsked 33 = .ok (.iload 6, 2) := by decide +kernel
theorem dX10_columnsAsked_35 : decode cX10_columnsAsked 35 = .ok (.bipush 20, 2) := by decide +kernel
theorem dX10_columnsAsked_37 : decode cX10_columnsAsked 37 = .ok (.if_icmp .gt 127, 3) := by decide +kernel
theorem dX10_columnsAsked_40 : decode cX10_columnsAsked 40 = .ok (.iload_n 3, 1) := by decide +kernel
theorem dX10_columnsAsked_41 : decode cX10_columnsAsked 41 = .ok (.ifCond .eq 123, 3) := by decide +kernel
theorem dX10_columnsAsked_44 : decode cX10_columnsAsked 44 = .ok (.aload_n 0, 1) := by decide +kernel
theorem dX10_columnsAsked_45 : decode cX10_columnsAsked 45 = .ok (.iload_n 3, 1) := by decide +kernel
theorem dX10_columnsAsked_46 : decode cX10_columnsAsked 46 = .ok (.iload 4, 2) := by decide +kernel
theorem dX10_columnsAsked_48 : decode cX10_columnsAsked 48 = .ok (.invokevirtual 145, 3) := by decide +kernel
theorem dX10_columnsAsked_51 : decode cX10_columnsAsked 51 = .ok (.istore 7, 2) := by decide +kernel
theorem dX10_columnsAsked_53 : decode cX10_columnsAsked 53 = .ok (.iload 7, 2) := by decide +kernel
theorem dX10_columnsAsked_55 : decode cX10_columnsAsked 55 = .ok (.iconst (-1), 1) := by decide +kernel
theorem dX10_columnsAsked_56 : decode cX10_columnsAsked 56 = .ok (.if_icmp .eq 42, 3) := by decide +kernel
theorem dX10_columnsAsked_59 : decode cX10_columnsAsked 59 = .ok (.iinc 5 1, 3) := by decide +kernel
theorem dX10_columnsAsked_62 : decode cX10_columnsAsked 62 = .ok (.iload_n 3, 1) := by decide +kernel
theorem dX10_columnsAsked_63 : decode cX10_columnsAsked 63 = .ok (.aload_n 0, 1) := by decide +kernel
theorem dX10_columnsAsked_64 : decode cX10_columnsAsked 64 = .ok (.getfield 29, 3) := by decide +kernel
theorem dX10_columnsAsked_67 : decode cX10_columnsAsked 67 = .ok (.iload 7, 2) := by decide +kernel
theorem dX10_columnsAsked_69 : decode cX10_columnsAsked 69 = .ok (.aload_n 0, 1) := by decide +kernel
theorem dX10_columnsAsked_70 : decode cX10_columnsAsked 70 = .ok (.getfield 29, 3) := by decide +kernel
theorem dX10_columnsAsked_73 : decode cX10_columnsAsked 73 = .ok (.iload_n 2, 1) := by decide +kernel
theorem dX10_columnsAsked_74 : decode cX10_columnsAsked 74 = .ok (.iload 7, 2) := by decide +kernel
theorem dX10_columnsAsked_76 : decode cX10_columnsAsked 76 = .ok (.invokevirtual 180, 3) := by decide +kernel
theorem dX10_columnsAsked_79 : decode cX10_columnsAsked 79 = .ok (.invokevirtual 56, 3) := by decide +kernel
theorem dX10_columnsAsked_82 : decode cX10_columnsAsked 82 = .ok (.iand, 1) := by decide +kernel
theorem dX10_columnsAsked_83 : decode cX10_columnsAsked 83 = .ok (.istore_n 3, 1) := by decide +kernel
theorem dX10_columnsAsked_84 : decode cX10_columnsAsked 84 = .ok (.iload 4, 2) := by decide +kernel
theorem dX10_columnsAsked_86 : decode cX10_columnsAsked 86 = .ok (.iconst 1, 1) := by decide +kernel
theorem dX10_columnsAsked_87 : decode cX10_columnsAsked 87 = .ok (.iload 7, 2) := by decide +kernel
theorem dX10_columnsAsked_89 : decode cX10_columnsAsked 89 = .ok (.ishl, 1) := by decide +kernel
theorem dX10_columnsAsked_90 : decode cX10_columnsAsked 90 = .ok (.iconst (-1), 1) := by decide +kernel
theorem dX10_columnsAsked_91 : decode cX10_columnsAsked 91 = .ok (.ixor, 1) := by decide +kernel
theorem dX10_columnsAsked_92 : decode cX10_columnsAsked 92 = .ok (.iand, 1) := by decide +kernel
theorem dX10_columnsAsked_93 : decode cX10_columnsAsked 93 = .ok (.istore 4, 2) := by decide +kernel
theorem dX10_columnsAsked_95 : decode cX10_columnsAsked 95 = .ok (.goto 63, 3) := by decide +kernel
theorem dX10_columnsAsked_98 : decode cX10_columnsAsked 98 = .ok (.aload_n 0, 1) := by decide +kernel
theorem dX10_columnsAsked_99 : decode cX10_columnsAsked 99 = .ok (.getfield 33, 3) := by decide +kernel
theorem dX10_columnsAsked_102 : decode cX10_columnsAsked 102 = .ok (.iload_n 3, 1) := by decide +kernel
theorem dX10_columnsAsked_103 : decode cX10_columnsAsked 103 = .ok (.invokevirtual 64, 3) := by decide +kernel
theorem dX10_columnsAsked_106 : decode cX10_columnsAsked 106 = .ok (.istore 8, 2) := by decide +kernel
theorem dX10_columnsAsked_108 : decode cX10_columnsAsked 108 = .ok (.aload_n 0, 1) := by decide +kernel
theorem dX10_columnsAsked_109 : decode cX10_columnsAsked 109 = .ok (.getfield 29, 3) := by decide +kernel
theorem dX10_columnsAsked_112 : decode cX10_columnsAsked 112 = .ok (.iload 8, 2) := by decide +kernel
theorem dX10_columnsAsked_114 : decode cX10_columnsAsked 114 = .ok (.invokevirtual 148, 3) := by decide +kernel
theorem dX10_columnsAsked_117 : decode cX10_columnsAsked 117 = .ok (.istore 9, 2) := by decide +kernel
theorem dX10_columnsAsked_119 : decode cX10_columnsAsked 119 = .ok (.iload 8, 2) := by decide +kernel
theorem dX10_columnsAsked_121 : decode cX10_columnsAsked 121 = .ok (.iconst (-1), 1) := by decide +kernel
theorem dX10_columnsAsked_122 : decode cX10_columnsAsked 122 = .ok (.if_icmp .eq 24, 3) := by decide +kernel
theorem dX10_columnsAsked_125 : decode cX10_columnsAsked 125 = .ok (.iload 9, 2) := by decide +kernel
theorem dX10_columnsAsked_127 : decode cX10_columnsAsked 127 = .ok (.iconst (-1), 1) := by decide +kernel
theorem dX10_columnsAsked_128 : decode cX10_columnsAsked 128 = .ok (.if_icmp .eq 18, 3) := by decide +kernel
theorem dX10_columnsAsked_131 : decode cX10_columnsAsked 131 = .ok (.aload_n 0, 1) := by decide +kernel
theorem dX10_columnsAsked_132 : decode cX10_columnsAsked 132 = .ok (.getfield 33, 3) := by decide +kernel
theorem dX10_columnsAsked_135 : decode cX10_columnsAsked 135 = .ok (.getfield 170, 3) := by decide +kernel
theorem dX10_columnsAsked_138 : decode cX10_columnsAsked 138 = .ok (.iload 9, 2) := by decide +kernel
theorem dX10_columnsAsked_140 : decode cX10_columnsAsked 140 = .ok (.invokestatic 70, 3) := by decide +kernel
theorem dX10_columnsAsked_143 : decode cX10_columnsAsked 143 = .ok (.ifCond .eq 6, 3) := by decide +kernel
theorem dX10_columnsAsked_146 : decode cX10_columnsAsked 146 = .ok (.iload 5, 2) := by decide +kernel
theorem dX10_columnsAsked_148 : decode cX10_columnsAsked 148 = .ok (.ireturn, 1) := by decide +kernel
theorem dX10_columnsAsked_149 : decode cX10_columnsAsked 149 = .ok (.iload_n 3, 1) := by decide +kernel
theorem dX10_columnsAsked_150 : decode cX10_columnsAsked 150 = .ok (.iconst 1, 1) := by decide +kernel
theorem dX10_columnsAsked_151 : decode cX10_columnsAsked 151 = .ok (.iload 8, 2) := by decide +kernel
theorem dX10_columnsAsked_153 : decode cX10_columnsAsked 153 = .ok (.ishl, 1) := by decide +kernel
theorem dX10_columnsAsked_154 : decode cX10_columnsAsked 154 = .ok (.iconst (-1), 1) := by decide +kernel
theorem dX10_columnsAsked_155 : decode cX10_columnsAsked 155 = .ok (.ixor, 1) := by decide +kernel
theorem dX10_columnsAsked_156 : decode cX10_columnsAsked 156 = .ok (.iand, 1) := by decide +kernel
theorem dX10_columnsAsked_157 : decode cX10_columnsAsked 157 = .ok (.istore_n 3, 1) := by decide +kernel
theorem dX10_columnsAsked_158 : decode cX10_columnsAsked 158 = .ok (.iinc 6 1, 3) := by decide +kernel
theorem dX10_columnsAsked_161 : decode cX10_columnsAsked 161 = .ok (.goto (-128), 3) := by decide +kernel
theorem dX10_columnsAsked_164 : decode cX10_columnsAsked 164 = .ok (.iload 5, 2) := by decide +kernel
theorem dX10_columnsAsked_166 : decode cX10_columnsAsked 166 = .ok (.ireturn, 1) := by decide +kernel
theorem dX10_buildAll_0 : decode cX10_buildAll 0 = .ok (.aload_n 0, 1) := by decide +kernel
theorem dX10_buildAll_1 : decode cX10_buildAll 1 = .ok (.aload_n 1, 1) := by decide +kernel
theorem dX10_buildAll_2 : decode cX10_buildAll 2 = .ok (.putfield 33, 3) := by decide +kernel
theorem dX10_buildAll_5 : decode cX10_buildAll 5 = .ok (.aload_n 0, 1) := by decide +kernel
theorem dX10_buildAll_6 : decode cX10_buildAll 6 = .ok (.iload_n 2, 1) := by decide +kernel
theorem dX10_buildAll_7 : decode cX10_buildAll 7 = .ok (.putfield 80, 3) := by decide +kernel
theorem dX10_buildAll_10 : decode cX10_buildAll 10 = .ok (.aload_n 0, 1) := by decide +kernel
theorem dX10_buildAll_11 : decode cX10_buildAll 11 = .ok (.iconst 0, 1) := by decide +kernel
theorem dX10_buildAll_12 : decode cX10_buildAll 12 = .ok (.putfield 183, 3) := by decide +kernel
theorem dX10_buildAll_15 : decode cX10_buildAll 15 = .ok (.aload_n 0, 1) := by decide +kernel
theorem dX10_buildAll_16 : decode cX10_buildAll 16 = .ok (.iconst 0, 1) := by decide +kernel
theorem dX10_buildAll_17 : decode cX10_buildAll 17 = .ok (.putfield 186, 3) := by decide +kernel
theorem dX10_buildAll_20 : decode cX10_buildAll 20 = .ok (.aload_n 0, 1) := by decide +kernel
theorem dX10_buildAll_21 : decode cX10_buildAll 21 = .ok (.iconst 0, 1) := by decide +kernel
theorem dX10_buildAll_22 : decode cX10_buildAll 22 = .ok (.putfield 189, 3) := by decide +kernel
theorem dX10_buildAll_25 : decode cX10_buildAll 25 = .ok (.aload_n 0, 1) := by decide +kernel
theorem dX10_buildAll_26 : decode cX10_buildAll 26 = .ok (.iconst 0, 1) := by decide +kernel
theorem dX10_buildAll_27 : decode cX10_buildAll 27 = .ok (.putfield 192, 3) := by decide +kernel
theorem dX10_buildAll_30 : decode cX10_buildAll 30 = .ok (.aload_n 0, 1) := by decide +kernel
theorem dX10_buildAll_31 : decode cX10_buildAll 31 = .ok (.iconst 0, 1) := by decide +kernel
theorem dX10_buildAll_32 : decode cX10_buildAll 32 = .ok (.putfield 195, 3) := by decide +kernel
theorem dX10_buildAll_35 : decode cX10_buildAll 35 = .ok (.aload_n 0, 1) := by decide +kernel
theorem dX10_buildAll_36 : decode cX10_buildAll 36 = .ok (.aload_n 0, 1) := by decide +kernel
theorem dX10_buildAll_37 : decode cX10_buildAll 37 = .ok (.getfield 33, 3) := by decide +kernel
theorem dX10_buildAll_40 : decode cX10_buildAll 40 = .ok (.invokevirtual 134, 3) := by decide +kernel
theorem dX10_buildAll_43 : decode cX10_buildAll 43 = .ok (.aload_n 0, 1) := by decide +kernel
theorem dX10_buildAll_44 : decode cX10_buildAll 44 = .ok (.invokevirtual 138, 3) := by decide +kernel
theorem dX10_buildAll_47 : decode cX10_buildAll 47 = .ok (.iconst 0, 1) := by decide +kernel
theorem dX10_buildAll_48 : decode cX10_buildAll 48 = .ok (.invokestatic 199, 3) := by decide +kernel
theorem dX10_buildAll_51 : decode cX10_buildAll 51 = .ok (.return_, 1) := by decide +kernel
theorem dX10_build_0 : decode cX10_build 0 = .ok (.aload_n 0, 1) := by decide +kernel
theorem dX10_build_1 : decode cX10_build 1 = .ok (.getfield 183, 3) := by decide +kernel
theorem dX10_build_4 : decode cX10_build 4 = .ok (.aload_n 0, 1) := by decide +kernel
theorem dX10_build_5 : decode cX10_build 5 = .ok (.getfield 29, 3) := by decide +kernel
theorem dX10_build_8 : decode cX10_build 8 = .ok (.getfield 203, 3) := by decide +kernel
theorem dX10_build_11 : decode cX10_build 11 = .ok (.if_icmp .ge 9, 3) := by decide +kernel
theorem dX10_build_14 : decode cX10_build 14 = .ok (.iload_n 3, 1) := by decide +kernel
theorem dX10_build_15 : decode cX10_build 15 = .ok (.bipush 20, 2) := by decide +kernel
theorem dX10_build_17 : decode cX10_build 17 = .ok (.if_icmp .le 9, 3) := by decide +kernel
theorem dX10_build_20 : decode cX10_build 20 = .ok (.aload_n 0, 1) := by decide +kernel
theorem dX10_build_21 : decode cX10_build 21 = .ok (.iconst 1, 1) := by decide +kernel
theorem dX10_build_22 : decode cX10_build 22 = .ok (.putfield 195, 3) := by decide +kernel
theorem dX10_build_25 : decode cX10_build 25 = .ok (.return_, 1) := by decide +kernel
theorem dX10_build_26 : decode cX10_build 26 = .ok (.aload_n 0, 1) := by decide +kernel
theorem dX10_build_27 : decode cX10_build 27 = .ok (.getfield 183, 3) := by decide +kernel
theorem dX10_build_30 : decode cX10_build 30 = .ok (.istore 4, 2) := by decide +kernel
theorem dX10_build_32 : decode cX10_build 32 = .ok (.aload_n 0, 1) := by decide +kernel
theorem dX10_build_33 : decode cX10_build 33 = .ok (.invokevirtual 206, 3) := by decide +kernel
theorem dX10_build_36 : decode cX10_build 36 = .ok (.aload_n 0, 1) := by decide +kernel
theorem dX10_build_37 : decode cX10_build 37 = .ok (.iload_n 1, 1) := by decide +kernel
theorem dX10_build_38 : decode cX10_build 38 = .ok (.iload_n 2, 1) := by decide +kernel
theorem dX10_build_39 : decode cX10_build 39 = .ok (.invokevirtual 145, 3) := by decide +kernel
theorem dX10_build_42 : decode cX10_build 42 = .ok (.istore 5, 2) := by decide +kernel
theorem dX10_build_44 : decode cX10_build 44 = .ok (.aload_n 0, 1) := by decide +kernel
theorem dX10_build_45 : decode cX10_build 45 = .ok (.getfield 33, 3) := by decide +kernel
theorem dX10_build_48 : decode cX10_build 48 = .ok (.iload_n 1, 1) := by decide +kernel
theorem dX10_build_49 : decode cX10_build 49 = .ok (.invokevirtual 64, 3) := by decide +kernel
theorem dX10_build_52 : decode cX10_build 52 = .ok (.istore 6, 2) := by decide +kernel
theorem dX10_build_54 : decode cX10_build 54 = .ok (.iload 5, 2) := by decide +kernel
theorem dX10_build_56 : decode cX10_build 56 = .ok (.iconst (-1), 1) := by decide +kernel
theorem dX10_build_57 : decode cX10_build 57 = .ok (.if_icmp .eq 69, 3) := by decide +kernel
theorem dX10_build_60 : decode cX10_build 60 = .ok (.aload_n 0, 1) := by decide +kernel
theorem dX10_build_61 : decode cX10_build 61 = .ok (.iload_n 1, 1) := by decide +kernel
theorem dX10_build_62 : decode cX10_build 62 = .ok (.iload_n 2, 1) := by decide +kernel
theorem dX10_build_63 : decode cX10_build 63 = .ok (.iload 5, 2) := by decide +kernel
theorem dX10_build_65 : decode cX10_build 65 = .ok (.invokevirtual 154, 3) := by decide +kernel
theorem dX10_build_68 : decode cX10_build 68 = .ok (.astore 7, 2) := by decide +kernel
theorem dX10_build_70 : decode cX10_build 70 = .ok (.iload_n 2, 1) := by decide +kernel
theorem dX10_build_71 : decode cX10_build 71 = .ok (.iconst 1, 1) := by decide +kernel
theorem dX10_build_72 : decode cX10_build 72 = .ok (.iload 5, 2) := by decide +kernel
theorem dX10_build_74 : decode cX10_build 74 = .ok (.ishl, 1) := by decide +kernel
theorem dX10_build_75 : decode cX10_build 75 = .ok (.iconst (-1), 1) := by decide +kernel
theorem dX10_build_76 : decode cX10_build 76 = .ok (.ixor, 1) := by decide +kernel
theorem dX10_build_77 : decode cX10_build 77 = .ok (.iand, 1) := by decide +kernel
theorem dX10_build_78 : decode cX10_build 78 = .ok (.istore 8, 2) := by decide +kernel
theorem dX10_build_80 : decode cX10_build 80 = .ok (.iconst 0, 1) := by decide +kernel
theorem dX10_build_81 : decode cX10_build 81 = .ok (.istore 9, 2) := by decide +kernel
theorem dX10_build_83 : decode cX10_build 83 = .ok (.iload 9, 2) := by decide +kernel
theorem dX10_build_85 : decode cX10_build 85 = .ok (.aload 7, 2) := by decide +kernel
theorem dX10_build_87 : decode cX10_build 87 = .ok (.getfield 103, 3) := by decide +kernel
theorem dX10_build_90 : decode cX10_build 90 = .ok (.if_icmp .ge 33, 3) := by decide +kernel
theorem dX10_build_93 : decode cX10_build 93 = .ok (.aload_n 0, 1) := by decide +kernel
theorem dX10_build_94 : decode cX10_build 94 = .ok (.getfield 195, 3) := by decide +kernel
theorem dX10_build_97 : decode cX10_build 97 = .ok (.ifCond .ne 26, 3) := by decide +kernel
theorem dX10_build_100 : decode cX10_build 100 = .ok (.aload_n 0, 1) := by decide +kernel
theorem dX10_build_101 : decode cX10_build 101 = .ok (.aload 7, 2) := by decide +kernel
theorem dX10_build_103 : decode cX10_build 103 = .ok (.getfield 104, 3) := by decide +kernel
theorem dX10_build_106 : decode cX10_build 106 = .ok (.iload 9, 2) := by decide +kernel
theorem dX10_build_108 : decode cX10_build 108 = .ok (.iaload, 1) := by decide +kernel
theorem dX10_build_109 : decode cX10_build 109 = .ok (.iload 8, 2) := by decide +kernel
theorem dX10_build_111 : decode cX10_build 111 = .ok (.iload_n 3, 1) := by decide +kernel
theorem dX10_build_112 : decode cX10_build 112 = .ok (.iconst 1, 1) := by decide +kernel
theorem dX10_build_113 : decode cX10_build 113 = .ok (.iadd, 1) := by decide +kernel
theorem dX10_build_114 : decode cX10_build 114 = .ok (.invokestatic 199, 3) := by decide +kernel
theorem dX10_build_117 : decode cX10_build 117 = .ok (.iinc 9 1, 3) := by decide +kernel
theorem dX10_build_120 : decode cX10_build 120 = .ok (.goto (-37), 3) := by decide +kernel
theorem dX10_build_123 : decode cX10_build 123 = .ok (.goto 32, 3) := by decide +kernel
theorem dX10_build_126 : decode cX10_build 126 = .ok (.aload_n 0, 1) := by decide +kernel
theorem dX10_build_127 : decode cX10_build 127 = .ok (.getfield 29, 3) := by decide +kernel
theorem dX10_build_130 : decode cX10_build 130 = .ok (.iload 6, 2) := by decide +kernel
theorem dX10_build_132 : decode cX10_build 132 = .ok (.invokevirtual 148, 3) := by decide +kernel
theorem dX10_build_135 : decode cX10_build 135 = .ok (.iconst (-1), 1) := by decide +kernel
theorem dX10_build_136 : decode cX10_build 136 = .ok (.if_icmp .eq 19, 3) := by decide +kernel
theorem dX10_build_139 : decode cX10_build 139 = .ok (.aload_n 0, 1) := by decide +kernel
theorem dX10_build_140 : decode cX10_build 140 = .ok (.iload_n 1, 1) := by decide +kernel
theorem dX10_build_141 : decode cX10_build 141 = .ok (.iconst 1, 1) := by decide +kernel
theorem dX10_build_142 : decode cX10_build 142 = .ok (.iload 6, 2) := by decide +kernel
theorem dX10_build_144 : decode cX10_build 144 = .ok (.ishl, 1) := by decide +kernel
theorem dX10_build_145 : decode cX10_build 145 = .ok (.iconst (-1), 1) := by decide +kernel
theorem dX10_build_146 : decode cX10_build 146 = .ok (.ixor, 1) := by decide +kernel
theorem dX10_build_147 : decode cX10_build 147 = .ok (.iand, 1) := by decide +kernel
theorem dX10_build_148 : decode cX10_build 148 = .ok (.iload_n 2, 1) := by decide +kernel
theorem dX10_build_149 : decode cX10_build 149 = .ok (.iload_n 3, 1) := by decide +kernel
theorem dX10_build_150 : decode cX10_build 150 = .ok (.iconst 1, 1) := by decide +kernel
theorem dX10_build_151 : decode cX10_build 151 = .ok (.iadd, 1) := by decide +kernel
theorem dX10_build_152 : decode cX10_build 152 = .ok (.invokestatic 199, 3) := by decide +kernel
theorem dX10_build_155 : decode cX10_build 155 = .ok (.aload_n 0, 1) := by decide +kernel
theorem dX10_build_156 : decode cX10_build 156 = .ok (.iload 4, 2) := by decide +kernel
theorem dX10_build_158 : decode cX10_build 158 = .ok (.invokevirtual 209, 3) := by decide +kernel
theorem dX10_build_161 : decode cX10_build 161 = .ok (.return_, 1) := by decide +kernel
theorem dX10_openScope_0 : decode cX10_openScope 0 = .ok (.aload_n 0, 1) := by decide +kernel
theorem dX10_openScope_1 : decode cX10_openScope 1 = .ok (.dup, 1) := by decide +kernel
theorem dX10_openScope_2 : decode cX10_openScope 2 = .ok (.getfield 183, 3) := by decide +kernel
theorem dX10_openScope_5 : decode cX10_openScope 5 = .ok (.iconst 1, 1) := by decide +kernel
theorem dX10_openScope_6 : decode cX10_openScope 6 = .ok (.iadd, 1) := by decide +kernel
theorem dX10_openScope_7 : decode cX10_openScope 7 = .ok (.putfield 183, 3) := by decide +kernel
theorem dX10_openScope_10 : decode cX10_openScope 10 = .ok (.aload_n 0, 1) := by decide +kernel
theorem dX10_openScope_11 : decode cX10_openScope 11 = .ok (.dup, 1) := by decide +kernel
theorem dX10_openScope_12 : decode cX10_openScope 12 = .ok (.getfield 186, 3) := by decide +kernel
theorem dX10_openScope_15 : decode cX10_openScope 15 = .ok (.iconst 1, 1) := by decide +kernel
theorem dX10_openScope_16 : decode cX10_openScope 16 = .ok (.iadd, 1) := by decide +kernel
theorem dX10_openScope_17 : decode cX10_openScope 17 = .ok (.putfield 186, 3) := by decide +kernel
theorem dX10_openScope_20 : decode cX10_openScope 20 = .ok (.aload_n 0, 1) := by decide +kernel
theorem dX10_openScope_21 : decode cX10_openScope 21 = .ok (.aload_n 0, 1) := by decide +kernel
theorem dX10_openScope_22 : decode cX10_openScope 22 = .ok (.getfield 189, 3) := by decide +kernel
theorem dX10_openScope_25 : decode cX10_openScope 25 = .ok (.aload_n 0, 1) := by decide +kernel
theorem dX10_openScope_26 : decode cX10_openScope 26 = .ok (.getfield 186, 3) := by decide +kernel
theorem dX10_openScope_29 : decode cX10_openScope 29 = .ok (.invokestatic 116, 3) := by decide +kernel
theorem dX10_openScope_32 : decode cX10_openScope 32 = .ok (.putfield 189, 3) := by decide +kernel
theorem dX10_openScope_35 : decode cX10_openScope 35 = .ok (.return_, 1) := by decide +kernel
theorem dX10_shutScope_0 : decode cX10_shutScope 0 = .ok (.aload_n 0, 1) := by decide +kernel
theorem dX10_shutScope_1 : decode cX10_shutScope 1 = .ok (.getfield 192, 3) := by decide +kernel
theorem dX10_shutScope_4 : decode cX10_shutScope 4 = .ok (.ifCond .lt 35, 3) := by decide +kernel
theorem dX10_shutScope_7 : decode cX10_shutScope 7 = .ok (.aload_n 0, 1) := by decide +kernel
theorem dX10_shutScope_8 : decode cX10_shutScope 8 = .ok (.getfield 192, 3) := by decide +kernel
theorem dX10_shutScope_11 : decode cX10_shutScope 11 = .ok (.aload_n 0, 1) := by decide +kernel
theorem dX10_shutScope_12 : decode cX10_shutScope 12 = .ok (.getfield 25, 3) := by decide +kernel
theorem dX10_shutScope_15 : decode cX10_shutScope 15 = .ok (.arraylength, 1) := by decide +kernel
theorem dX10_shutScope_16 : decode cX10_shutScope 16 = .ok (.if_icmp .ge 23, 3) := by decide +kernel
theorem dX10_shutScope_19 : decode cX10_shutScope 19 = .ok (.aload_n 0, 1) := by decide +kernel
theorem dX10_shutScope_20 : decode cX10_shutScope 20 = .ok (.getfield 25, 3) := by decide +kernel
theorem dX10_shutScope_23 : decode cX10_shutScope 23 = .ok (.aload_n 0, 1) := by decide +kernel
theorem dX10_shutScope_24 : decode cX10_shutScope 24 = .ok (.getfield 192, 3) := by decide +kernel
theorem dX10_shutScope_27 : decode cX10_shutScope 27 = .ok (.iload_n 1, 1) := by decide +kernel
theorem dX10_shutScope_28 : decode cX10_shutScope 28 = .ok (.iastore, 1) := by decide +kernel
theorem dX10_shutScope_29 : decode cX10_shutScope 29 = .ok (.aload_n 0, 1) := by decide +kernel
theorem dX10_shutScope_30 : decode cX10_shutScope 30 = .ok (.dup, 1) := by decide +kernel
theorem dX10_shutScope_31 : decode cX10_shutScope 31 = .ok (.getfield 192, 3) := by decide +kernel
theorem dX10_shutScope_34 : decode cX10_shutScope 34 = .ok (.iconst 1, 1) := by decide +kernel
theorem dX10_shutScope_35 : decode cX10_shutScope 35 = .ok (.iadd, 1) := by decide +kernel
theorem dX10_shutScope_36 : decode cX10_shutScope 36 = .ok (.putfield 192, 3) := by decide +kernel
theorem dX10_shutScope_39 : decode cX10_shutScope 39 = .ok (.aload_n 0, 1) := by decide +kernel
theorem dX10_shutScope_40 : decode cX10_shutScope 40 = .ok (.dup, 1) := by decide +kernel
theorem dX10_shutScope_41 : decode cX10_shutScope 41 = .ok (.getfield 186, 3) := by decide +kernel
theorem dX10_shutScope_44 : decode cX10_shutScope 44 = .ok (.iconst 1, 1) := by decide +kernel
theorem dX10_shutScope_45 : decode cX10_shutScope 45 = .ok (.isub, 1) := by decide +kernel
theorem dX10_shutScope_46 : decode cX10_shutScope 46 = .ok (.putfield 186, 3) := by decide +kernel
theorem dX10_shutScope_49 : decode cX10_shutScope 49 = .ok (.return_, 1) := by decide +kernel
theorem dX10_scopeShutAs_0 : decode cX10_scopeShutAs 0 = .ok (.iload_n 1, 1) := by decide +kernel
theorem dX10_scopeShutAs_1 : decode cX10_scopeShutAs 1 = .ok (.ifCond .lt 29, 3) := by decide +kernel
theorem dX10_scopeShutAs_4 : decode cX10_scopeShutAs 4 = .ok (.iload_n 1, 1) := by decide +kernel
theorem dX10_scopeShutAs_5 : decode cX10_scopeShutAs 5 = .ok (.aload_n 0, 1) := by decide +kernel
theorem dX10_scopeShutAs_6 : decode cX10_scopeShutAs 6 = .ok (.getfield 192, 3) := by decide +kernel
theorem dX10_scopeShutAs_9 : decode cX10_scopeShutAs 9 = .ok (.if_icmp .ge 21, 3) := by decide +kernel
theorem dX10_scopeShutAs_12 : decode cX10_scopeShutAs 12 = .ok (.iload_n 1, 1) := by decide +kernel
theorem dX10_scopeShutAs_13 : decode cX10_scopeShutAs 13 = .ok (.aload_n 0, 1) := by decide +kernel
theorem dX10_scopeShutAs_14 : decode cX10_scopeShutAs 14 = .ok (.getfield 25, 3) := by decide +kernel
theorem dX10_scopeShutAs_17 : decode cX10_scopeShutAs 17 = .ok (.arraylength, 1) := by decide +kernel
theorem dX10_scopeShutAs_18 : decode cX10_scopeShutAs 18 = .ok (.if_icmp .ge 12, 3) := by decide +kernel
theorem dX10_scopeShutAs_21 : decode cX10_scopeShutAs 21 = .ok (.aload_n 0, 1) := by decide +kernel
theorem dX10_scopeShutAs_22 : decode cX10_scopeShutAs 22 = .ok (.getfield 25, 3) := by decide +kernel
theorem dX10_scopeShutAs_25 : decode cX10_scopeShutAs 25 = .ok (.iload_n 1, 1) := by decide +kernel
theorem dX10_scopeShutAs_26 : decode cX10_scopeShutAs 26 = .ok (.iaload, 1) := by decide +kernel
theorem dX10_scopeShutAs_27 : decode cX10_scopeShutAs 27 = .ok (.goto 4, 3) := by decide +kernel
theorem dX10_scopeShutAs_30 : decode cX10_scopeShutAs 30 = .ok (.iconst (-1), 1) := by decide +kernel
theorem dX10_scopeShutAs_31 : decode cX10_scopeShutAs 31 = .ok (.ireturn, 1) := by decide +kernel
theorem dX11_init_0 : decode cX11_init 0 = .ok (.aload_n 0, 1) := by decide +kernel
theorem dX11_init_1 : decode cX11_init 1 = .ok (.invokespecial 3, 3) := by decide +kernel
theorem dX11_init_4 : decode cX11_init 4 = .ok (.aload_n 0, 1) := by decide +kernel
theorem dX11_init_5 : decode cX11_init 5 = .ok (.new 9, 3) := by decide +kernel
theorem dX11_init_8 : decode cX11_init 8 = .ok (.dup, 1) := by decide +kernel
theorem dX11_init_9 : decode cX11_init 9 = .ok (.sipush 1600, 3) := by decide +kernel
theorem dX11_init_12 : decode cX11_init 12 = .ok (.invokespecial 11, 3) := by decide +kernel
theorem dX11_init_15 : decode cX11_init 15 = .ok (.putfield 14, 3) := by decide +kernel
theorem dX11_init_18 : decode cX11_init 18 = .ok (.aload_n 0, 1) := by decide +kernel
theorem dX11_init_19 : decode cX11_init 19 = .ok (.new 9, 3) := by decide +kernel
theorem dX11_init_22 : decode cX11_init 22 = .ok (.dup, 1) := by decide +kernel
theorem dX11_init_23 : decode cX11_init 23 = .ok (.sipush 1024, 3) := by decide +kernel
theorem dX11_init_26 : decode cX11_init 26 = .ok (.invokespecial 11, 3) := by decide +kernel
theorem dX11_init_29 : decode cX11_init 29 = .ok (.putfield 18, 3) := by decide +kernel
theorem dX11_init_32 : decode cX11_init 32 = .ok (.aload_n 0, 1) := by decide +kernel
theorem dX11_init_33 : decode cX11_init 33 = .ok (.new 21, 3) := by decide +kernel
theorem dX11_init_36 : decode cX11_init 36 = .ok (.dup, 1) := by decide +kernel
theorem dX11_init_37 : decode cX11_init 37 = .ok (.invokespecial 23, 3) := by decide +kernel
theorem dX11_init_40 : decode cX11_init 40 = .ok (.putfield 24, 3) := by decide +kernel
theorem dX11_init_43 : decode cX11_init 43 = .ok (.aload_n 0, 1) := by decide +kernel
theorem dX11_init_44 : decode cX11_init 44 = .ok (.new 28, 3) := by decide +kernel
theorem dX11_init_47 : decode cX11_init 47 = .ok (.dup, 1) := by decide +kernel
theorem dX11_init_48 : decode cX11_init 48 = .ok (.sipush 4096, 3) := by decide +kernel
theorem dX11_init_51 : decode cX11_init 51 = .ok (.aload_n 0, 1) := by decide +kernel
theorem dX11_init_52 : decode cX11_init 52 = .ok (.getfield 24, 3) := by decide +kernel
theorem dX11_init_55 : decode cX11_init 55 = .ok (.invokespecial 30, 3) := by decide +kernel
theorem dX11_init_58 : decode cX11_init 58 = .ok (.putfield 33, 3) := by decide +kernel
theorem dX11_init_61 : decode cX11_init 61 = .ok (.aload_n 0, 1) := by decide +kernel
theorem dX11_init_62 : decode cX11_init 62 = .ok (.new 28, 3) := by decide +kernel
theorem dX11_init_65 : decode cX11_init 65 = .ok (.dup, 1) := by decide +kernel
theorem dX11_init_66 : decode cX11_init 66 = .ok (.sipush 4096, 3) := by decide +kernel
theorem dX11_init_69 : decode cX11_init 69 = .ok (.aload_n 0, 1) := by decide +kernel
theorem dX11_init_70 : decode cX11_init 70 = .ok (.getfield 24, 3) := by decide +kernel
theorem dX11_init_73 : decode cX11_init 73 = .ok (.invokespecial 30, 3) := by decide +kernel
theorem dX11_init_76 : decode cX11_init 76 = .ok (.putfield 37, 3) := by decide +kernel
theorem dX11_init_79 : decode cX11_init 79 = .ok (.aload_n 0, 1) := by decide +kernel
theorem dX11_init_80 : decode cX11_init 80 = .ok (.new 40, 3) := by decide +kernel
theorem dX11_init_83 : decode cX11_init 83 = .ok (.dup, 1) := by decide +kernel
theorem dX11_init_84 : decode cX11_init 84 = .ok (.invokespecial 42, 3) := by decide +kernel
theorem dX11_init_87 : decode cX11_init 87 = .ok (.putfield 43, 3) := by decide +kernel
theorem dX11_init_90 : decode cX11_init 90 = .ok (.aload_n 0, 1) := by decide +kernel
theorem dX11_init_91 : decode cX11_init 91 = .ok (.new 40, 3) := by decide +kernel
theorem dX11_init_94 : decode cX11_init 94 = .ok (.dup, 1) := by decide +kernel
theorem dX11_init_95 : decode cX11_init 95 = .ok (.invokespecial 42, 3) := by decide +kernel
theorem dX11_init_98 : decode cX11_init 98 = .ok (.putfield 47, 3) := by decide +kernel
theorem dX11_init_101 : decode cX11_init 101 = .ok (.aload_n 0, 1) := by decide +kernel
theorem dX11_init_102 : decode cX11_init 102 = .ok (.new 50, 3) := by decide +kernel
theorem dX11_init_105 : decode cX11_init 105 = .ok (.dup, 1) := by decide +kernel
theorem dX11_init_106 : decode cX11_init 106 = .ok (.invokespecial 52, 3) := by decide +kernel
theorem dX11_init_109 : decode cX11_init 109 = .ok (.putfield 53, 3) := by decide +kernel
theorem dX11_init_112 : decode cX11_init 112 = .ok (.aload_n 0, 1) := by decide +kernel
theorem dX11_init_113 : decode cX11_init 113 = .ok (.new 57, 3) := by decide +kernel
theorem dX11_init_116 : decode cX11_init 116 = .ok (.dup, 1) := by decide +kernel
theorem dX11_init_117 : decode cX11_init 117 = .ok (.invokespecial 59, 3) := by decide +kernel
theorem dX11_init_120 : decode cX11_init 120 = .ok (.putfield 60, 3) := by decide +kernel
theorem dX11_init_123 : decode cX11_init 123 = .ok (.aload_n 0, 1) := by decide +kernel
theorem dX11_init_124 : decode cX11_init 124 = .ok (.bipush 6, 2) := by decide +kernel
theorem dX11_init_126 : decode cX11_init 126 = .ok (.newarray .int, 2) := by decide +kernel
theorem dX11_init_128 : decode cX11_init 128 = .ok (.putfield 64, 3) := by decide +kernel
theorem dX11_init_131 : decode cX11_init 131 = .ok (.aload_n 0, 1) := by decide +kernel
theorem dX11_init_132 : decode cX11_init 132 = .ok (.new 68, 3) := by decide +kernel
theorem dX11_init_135 : decode cX11_init 135 = .ok (.dup, 1) := by decide +kernel
theorem dX11_init_136 : decode cX11_init 136 = .ok (.invokespecial 70, 3) := by decide +kernel
theorem dX11_init_139 : decode cX11_init 139 = .ok (.putfield 71, 3) := by decide +kernel
theorem dX11_init_142 : decode cX11_init 142 = .ok (.aload_n 0, 1) := by decide +kernel
theorem dX11_init_143 : decode cX11_init 143 = .ok (.new 68, 3) := by decide +kernel
