section
section
theorem dX10_measure_314 : decode cX10_measure 314 = .ok (.lor, 1) := dq_129 (fd_r fcX10_measure (by decide +kernel))
theorem dX10_measure_315 : decode cX10_measure 315 = .ok (.lstore 11, 2) := dq_55 (a := 11) (fd_r fcX10_measure (by decide +kernel))
theorem dX10_measure_317 : decode cX10_measure 317 = .ok (.aload_n 0, 1) := dq_42 (fd_r fcX10_measure (by decide +kernel))
theorem dX10_measure_318 : decode cX10_measure 318 = .ok (.getfield 21, 3) := dq_180 (a := 0) (b := 21) (fd_r fcX10_measure (by decide +kernel)) rfl
theorem dX10_measure_321 : decode cX10_measure 321 = .ok (.iload 4, 2) := dq_21 (a := 4) (fd_r fcX10_measure (by decide +kernel))
theorem dX10_measure_323 : decode cX10_measure 323 = .ok (.aload_n 0, 1) := dq_42 (fd_r fcX10_measure (by decide +kernel))
theorem dX10_measure_324 : decode cX10_measure 324 = .ok (.getfield 128, 3) := dq_180 (a := 0) (b := 128) (fd_r fcX10_measure (by decide +kernel)) rfl
theorem dX10_measure_327 : decode cX10_measure 327 = .ok (.i2l, 1) := dq_133 (fd_r fcX10_measure (by decide +kernel))
theorem dX10_measure_328 : decode cX10_measure 328 = .ok (.bipush 40, 2) := dq_16 (a := 40) (fd_r fcX10_measure (by decide +kernel)) rfl
theorem dX10_measure_330 : decode cX10_measure 330 = .ok (.lshl, 1) := dq_121 (fd_r fcX10_measure (by decide +kernel))
theorem dX10_measure_331 : decode cX10_measure 331 = .ok (.lload 11, 2) := dq_22 (a := 11) (fd_r fcX10_measure (by decide +kernel))
theorem dX10_measure_333 : decode cX10_measure 333 = .ok (.lor, 1) := dq_129 (fd_r fcX10_measure (by decide +kernel))
theorem dX10_measure_334 : decode cX10_measure 334 = .ok (.lastore, 1) := dq_80 (fd_r fcX10_measure (by decide +kernel))
theorem dX10_measure_335 : decode cX10_measure 335 = .ok (.aload_n 0, 1) := dq_42 (fd_r fcX10_measure (by decide +kernel))
theorem dX10_measure_336 : decode cX10_measure 336 = .ok (.getfield 21, 3) := dq_180 (a := 0) (b := 21) (fd_r fcX10_measure (by decide +kernel)) rfl
theorem dX10_measure_339 : decode cX10_measure 339 = .ok (.iload 4, 2) := dq_21 (a := 4) (fd_r fcX10_measure (by decide +kernel))
theorem dX10_measure_341 : decode cX10_measure 341 = .ok (.laload, 1) := dq_47 (fd_r fcX10_measure (by decide +kernel))
theorem dX10_measure_342 : decode cX10_measure 342 = .ok (.lreturn, 1) := dq_173 (fd_r fcX10_measure (by decide +kernel))
theorem dX10_nodesIn_0 : decode cX10_nodesIn 0 = .ok (.lload_n 0, 1) := dq_30 (fd_r fcX10_nodesIn (by decide +kernel))
theorem dX10_nodesIn_1 : decode cX10_nodesIn 1 = .ok (.ldc2_w 173, 3) := dq_20 (a := 0) (b := 173) (fd_r fcX10_nodesIn (by decide +kernel)) rfl
theorem dX10_nodesIn_4 : decode cX10_nodesIn 4 = .ok (.land, 1) := dq_127 (fd_r fcX10_nodesIn (by decide +kernel))
theorem dX10_nodesIn_5 : decode cX10_nodesIn 5 = .ok (.l2i, 1) := dq_136 (fd_r fcX10_nodesIn (by decide +kernel))
theorem dX10_nodesIn_6 : decode cX10_nodesIn 6 = .ok (.ireturn, 1) := dq_172 (fd_r fcX10_nodesIn (by decide +kernel))
theorem dX10_testsIn_0 : decode cX10_testsIn 0 = .ok (.lload_n 0, 1) := dq_30 (fd_r fcX10_testsIn (by decide +kernel))
theorem dX10_testsIn_1 : decode cX10_testsIn 1 = .ok (.bipush 20, 2) := dq_16 (a := 20) (fd_r fcX10_testsIn (by decide +kernel)) rfl
theorem dX10_testsIn_3 : decode cX10_testsIn 3 = .ok (.lushr, 1) := dq_125 (fd_r fcX10_testsIn (by decide +kernel))
theorem dX10_testsIn_4 : decode cX10_testsIn 4 = .ok (.ldc2_w 175, 3) := dq_20 (a := 0) (b := 175) (fd_r fcX10_testsIn (by decide +kernel)) rfl
theorem dX10_testsIn_7 : decode cX10_testsIn 7 = .ok (.land, 1) := dq_127 (fd_r fcX10_testsIn (by decide +kernel))
theorem dX10_testsIn_8 : decode cX10_testsIn 8 = .ok (.l2i, 1) := dq_136 (fd_r fcX10_testsIn (by decide +kernel))
theorem dX10_testsIn_9 : decode cX10_testsIn 9 = .ok (.ireturn, 1) := dq_172 (fd_r fcX10_testsIn (by decide +kernel))
theorem dX10_longestIn_0 : decode cX10_longestIn 0 = .ok (.lload_n 0, 1) := dq_30 (fd_r fcX10_longestIn (by decide +kernel))
theorem dX10_longestIn_1 : decode cX10_longestIn 1 = .ok (.bipush 37, 2) := dq_16 (a := 37) (fd_r fcX10_longestIn (by decide +kernel)) rfl
theorem dX10_longestIn_3 : decode cX10_longestIn 3 = .ok (.lushr, 1) := dq_125 (fd_r fcX10_longestIn (by decide +kernel))
theorem dX10_longestIn_4 : decode cX10_longestIn 4 = .ok (.ldc2_w 177, 3) := dq_20 (a := 0) (b := 177) (fd_r fcX10_longestIn (by decide +kernel)) rfl
theorem dX10_longestIn_7 : decode cX10_longestIn 7 = .ok (.land, 1) := dq_127 (fd_r fcX10_longestIn (by decide +kernel))
theorem dX10_longestIn_8 : decode cX10_longestIn 8 = .ok (.l2i, 1) := dq_136 (fd_r fcX10_longestIn (by decide +kernel))
theorem dX10_longestIn_9 : decode cX10_longestIn 9 = .ok (.ireturn, 1) := dq_172 (fd_r fcX10_longestIn (by decide +kernel))
theorem dX10_firstColumn_0 : decode cX10_firstColumn 0 = .ok (.aload_n 0, 1) := dq_42 (fd_r fcX10_firstColumn (by decide +kernel))
theorem dX10_firstColumn_1 : decode cX10_firstColumn 1 = .ok (.aload_n 1, 1) := dq_43 (fd_r fcX10_firstColumn (by decide +kernel))
theorem dX10_firstColumn_2 : decode cX10_firstColumn 2 = .ok (.putfield 33, 3) := dq_181 (a := 0) (b := 33) (fd_r fcX10_firstColumn (by decide +kernel)) rfl
theorem dX10_firstColumn_5 : decode cX10_firstColumn 5 = .ok (.aload_n 0, 1) := dq_42 (fd_r fcX10_firstColumn (by decide +kernel))
theorem dX10_firstColumn_6 : decode cX10_firstColumn 6 = .ok (.iload_n 2, 1) := dq_28 (fd_r fcX10_firstColumn (by decide +kernel))
theorem dX10_firstColumn_7 : decode cX10_firstColumn 7 = .ok (.putfield 80, 3) := dq_181 (a := 0) (b := 80) (fd_r fcX10_firstColumn (by decide +kernel)) rfl
theorem dX10_firstColumn_10 : decode cX10_firstColumn 10 = .ok (.aload_n 0, 1) := dq_42 (fd_r fcX10_firstColumn (by decide +kernel))
theorem dX10_firstColumn_11 : decode cX10_firstColumn 11 = .ok (.getfield 33, 3) := dq_180 (a := 0) (b := 33) (fd_r fcX10_firstColumn (by decide +kernel)) rfl
theorem dX10_firstColumn_14 : decode cX10_firstColumn 14 = .ok (.invokevirtual 134, 3) := dq_182 (a := 0) (b := 134) (fd_r fcX10_firstColumn (by decide +kernel)) rfl
theorem dX10_firstColumn_17 : decode cX10_firstColumn 17 = .ok (.istore_n 3, 1) := dq_62 (fd_r fcX10_firstColumn (by decide +kernel))
theorem dX10_firstColumn_18 : decode cX10_firstColumn 18 = .ok (.iconst 0, 1) := dq_3 (fd_r fcX10_firstColumn (by decide +kernel))
theorem dX10_firstColumn_19 : decode cX10_firstColumn 19 = .ok (.istore 4, 2) := dq_54 (a := 4) (fd_r fcX10_firstColumn (by decide +kernel))
theorem dX10_firstColumn_21 : decode cX10_firstColumn 21 = .ok (.iload 4, 2) := dq_21 (a := 4) (fd_r fcX10_firstColumn (by decide +kernel))
theorem dX10_firstColumn_23 : decode cX10_firstColumn 23 = .ok (.bipush 12, 2) := dq_16 (a := 12) (fd_r fcX10_firstColumn (by decide +kernel)) rfl
theorem dX10_firstColumn_25 : decode cX10_firstColumn 25 = .ok (.if_icmp .gt 67, 3) := dq_163 (a := 0) (b := 67) (fd_r fcX10_firstColumn (by decide +kernel)) rfl
theorem dX10_firstColumn_28 : decode cX10_firstColumn 28 = .ok (.aload_n 0, 1) := dq_42 (fd_r fcX10_firstColumn (by decide +kernel))
theorem dX10_firstColumn_29 : decode cX10_firstColumn 29 = .ok (.iload_n 3, 1) := dq_29 (fd_r fcX10_firstColumn (by decide +kernel))
theorem dX10_firstColumn_30 : decode cX10_firstColumn 30 = .ok (.aload_n 0, 1) := dq_42 (fd_r fcX10_firstColumn (by decide +kernel))
theorem dX10_firstColumn_31 : decode cX10_firstColumn 31 = .ok (.invokevirtual 138, 3) := dq_182 (a := 0) (b := 138) (fd_r fcX10_firstColumn (by decide +kernel)) rfl
theorem dX10_firstColumn_34 : decode cX10_firstColumn 34 = .ok (.invokevirtual 145, 3) := dq_182 (a := 0) (b := 145) (fd_r fcX10_firstColumn (by decide +kernel)) rfl
theorem dX10_firstColumn_37 : decode cX10_firstColumn 37 = .ok (.istore 5, 2) := dq_54 (a := 5) (fd_r fcX10_firstColumn (by decide +kernel))
theorem dX10_firstColumn_39 : decode cX10_firstColumn 39 = .ok (.aload_n 0, 1) := dq_42 (fd_r fcX10_firstColumn (by decide +kernel))
theorem dX10_firstColumn_40 : decode cX10_firstColumn 40 = .ok (.getfield 33, 3) := dq_180 (a := 0) (b := 33) (fd_r fcX10_firstColumn (by decide +kernel)) rfl
theorem dX10_firstColumn_43 : decode cX10_firstColumn 43 = .ok (.iload_n 3, 1) := dq_29 (fd_r fcX10_firstColumn (by decide +kernel))
theorem dX10_firstColumn_44 : decode cX10_firstColumn 44 = .ok (.invokevirtual 64, 3) := dq_182 (a := 0) (b := 64) (fd_r fcX10_firstColumn (by decide +kernel)) rfl
theorem dX10_firstColumn_47 : decode cX10_firstColumn 47 = .ok (.istore 6, 2) := dq_54 (a := 6) (fd_r fcX10_firstColumn (by decide +kernel))
theorem dX10_firstColumn_49 : decode cX10_firstColumn 49 = .ok (.iload 5, 2) := dq_21 (a := 5) (fd_r fcX10_firstColumn (by decide +kernel))
theorem dX10_firstColumn_51 : decode cX10_firstColumn 51 = .ok (.iconst (-1), 1) := dq_2 (fd_r fcX10_firstColumn (by decide +kernel))
theorem dX10_firstColumn_52 : decode cX10_firstColumn 52 = .ok (.if_icmp .ne 22, 3) := dq_160 (a := 0) (b := 22) (fd_r fcX10_firstColumn (by decide +kernel)) rfl
theorem dX10_firstColumn_55 : decode cX10_firstColumn 55 = .ok (.iload 6, 2) := dq_21 (a := 6) (fd_r fcX10_firstColumn (by decide +kernel))
theorem dX10_firstColumn_57 : decode cX10_firstColumn 57 = .ok (.iconst (-1), 1) := dq_2 (fd_r fcX10_firstColumn (by decide +kernel))
theorem dX10_firstColumn_58 : decode cX10_firstColumn 58 = .ok (.if_icmp .eq 16, 3) := dq_159 (a := 0) (b := 16) (fd_r fcX10_firstColumn (by decide +kernel)) rfl
theorem dX10_firstColumn_61 : decode cX10_firstColumn 61 = .ok (.aload_n 0, 1) := dq_42 (fd_r fcX10_firstColumn (by decide +kernel))
theorem dX10_firstColumn_62 : decode cX10_firstColumn 62 = .ok (.getfield 29, 3) := dq_180 (a := 0) (b := 29) (fd_r fcX10_firstColumn (by decide +kernel)) rfl
theorem dX10_firstColumn_65 : decode cX10_firstColumn 65 = .ok (.iload 6, 2) := dq_21 (a := 6) (fd_r fcX10_firstColumn (by decide +kernel))
theorem dX10_firstColumn_67 : decode cX10_firstColumn 67 = .ok (.invokevirtual 148, 3) := dq_182 (a := 0) (b := 148) (fd_r fcX10_firstColumn (by decide +kernel)) rfl
theorem dX10_firstColumn_70 : decode cX10_firstColumn 70 = .ok (.iconst (-1), 1) := dq_2 (fd_r fcX10_firstColumn (by decide +kernel))
theorem dX10_firstColumn_71 : decode cX10_firstColumn 71 = .ok (.if_icmp .ne 6, 3) := dq_160 (a := 0) (b := 6) (fd_r fcX10_firstColumn (by decide +kernel)) rfl
theorem dX10_firstColumn_74 : decode cX10_firstColumn 74 = .ok (.iload 5, 2) := dq_21 (a := 5) (fd_r fcX10_firstColumn (by decide +kernel))
theorem dX10_firstColumn_76 : decode cX10_firstColumn 76 = .ok (.ireturn, 1) := dq_172 (fd_r fcX10_firstColumn (by decide +kernel))
theorem dX10_firstColumn_77 : decode cX10_firstColumn 77 = .ok (.iload_n 3, 1) := dq_29 (fd_r fcX10_firstColumn (by decide +kernel))
theorem dX10_firstColumn_78 : decode cX10_firstColumn 78 = .ok (.iconst 1, 1) := dq_4 (fd_r fcX10_firstColumn (by decide +kernel))
theorem dX10_firstColumn_79 : decode cX10_firstColumn 79 = .ok (.iload 6, 2) := dq_21 (a := 6) (fd_r fcX10_firstColumn (by decide +kernel))
theorem dX10_firstColumn_81 : decode cX10_firstColumn 81 = .ok (.ishl, 1) := dq_120 (fd_r fcX10_firstColumn (by decide +kernel))
theorem dX10_firstColumn_82 : decode cX10_firstColumn 82 = .ok (.iconst (-1), 1) := dq_2 (fd_r fcX10_firstColumn (by decide +kernel))
theorem dX10_firstColumn_83 : decode cX10_firstColumn 83 = .ok (.ixor, 1) := dq_130 (fd_r fcX10_firstColumn (by decide +kernel))
theorem dX10_firstColumn_84 : decode cX10_firstColumn 84 = .ok (.iand, 1) := dq_126 (fd_r fcX10_firstColumn (by decide +kernel))
theorem dX10_firstColumn_85 : decode cX10_firstColumn 85 = .ok (.istore_n 3, 1) := dq_62 (fd_r fcX10_firstColumn (by decide +kernel))
theorem dX10_firstColumn_86 : decode cX10_firstColumn 86 = .ok (.iinc 4 1, 3) := dq_132 (a := 4) (b := 1) (fd_r fcX10_firstColumn (by decide +kernel)) rfl
theorem dX10_firstColumn_89 : decode cX10_firstColumn 89 = .ok (.goto (-68), 3) := dq_167 (a := 255) (b := 188) (fd_r fcX10_firstColumn (by decide +kernel)) rfl
theorem dX10_firstColumn_92 : decode cX10_firstColumn 92 = .ok (.iconst (-1), 1) := dq_2 (fd_r fcX10_firstColumn (by decide +kernel))
theorem dX10_firstColumn_93 : decode cX10_firstColumn 93 = .ok (.ireturn, 1) := dq_172 (fd_r fcX10_firstColumn (by decide +kernel))
theorem dX10_columnsAsked_0 : decode cX10_columnsAsked 0 = .ok (.aload_n 0, 1) := dq_42 (fd_r fcX10_columnsAsked (by decide +kernel))
theorem dX10_columnsAsked_1 : decode cX10_columnsAsked 1 = .ok (.aload_n 1, 1) := dq_43 (fd_r fcX10_columnsAsked (by decide +kernel))
theorem dX10_columnsAsked_2 : decode cX10_columnsAsked 2 = .ok (.putfield 33, 3) := dq_181 (a := 0) (b := 33) (fd_r fcX10_columnsAsked (by decide +kernel)) rfl
theorem dX10_columnsAsked_5 : decode cX10_columnsAsked 5 = .ok (.aload_n 0, 1) := dq_42 (fd_r fcX10_columnsAsked (by decide +kernel))
theorem dX10_columnsAsked_6 : decode cX10_columnsAsked 6 = .ok (.aload_n 1, 1) := dq_43 (fd_r fcX10_columnsAsked (by decide +kernel))
theorem dX10_columnsAsked_7 : decode cX10_columnsAsked 7 = .ok (.getfield 179, 3) := dq_180 (a := 0) (b := 179) (fd_r fcX10_columnsAsked (by decide +kernel)) rfl
theorem dX10_columnsAsked_10 : decode cX10_columnsAsked 10 = .ok (.putfield 80, 3) := dq_181 (a := 0) (b := 80) (fd_r fcX10_columnsAsked (by decide +kernel)) rfl
theorem dX10_columnsAsked_13 : decode cX10_columnsAsked 13 = .ok (.aload_n 0, 1) := dq_42 (fd_r fcX10_columnsAsked (by decide +kernel))
theorem dX10_columnsAsked_14 : decode cX10_columnsAsked 14 = .ok (.getfield 33, 3) := dq_180 (a := 0) (b := 33) (fd_r fcX10_columnsAsked (by decide +kernel)) rfl
theorem dX10_columnsAsked_17 : decode cX10_columnsAsked 17 = .ok (.invokevirtual 134, 3) := dq_182 (a := 0) (b := 134) (fd_r fcX10_columnsAsked (by decide +kernel)) rfl
theorem dX10_columnsAsked_20 : decode cX10_columnsAsked 20 = .ok (.istore_n 3, 1) := dq_62 (fd_r fcX10_columnsAsked (by decide +kernel))
theorem dX10_columnsAsked_21 : decode cX10_columnsAsked 21 = .ok (.aload_n 0, 1) := dq_42 (fd_r fcX10_columnsAsked (by decide +kernel))
theorem dX10_columnsAsked_22 : decode cX10_columnsAsked 22 = .ok (.invokevirtual 138, 3) := dq_182 (a := 0) (b := 138) (fd_r fcX10_columnsAsked (by decide +kernel)) rfl
theorem dX10_columnsAsked_25 : decode cX10_columnsAsked 25 = .ok (.istore 4, 2) := dq_54 (a := 4) (fd_r fcX10_columnsAsked (by decide +kernel))
theorem dX10_columnsAsked_27 : decode cX10_columnsAsked 27 = .ok (.iconst 0, 1) := dq_3 (fd_r fcX10_columnsAsked (by decide +kernel))
theorem dX10_columnsAsked_28 : decode cX10_columnsAsked 28 = .ok (.istore 5, 2) := dq_54 (a := 5) (fd_r fcX10_columnsAsked (by decide +kernel))
theorem dX10_columnsAsked_30 : decode cX10_columnsAsked 30 = .ok (.iconst 0, 1) := dq_3 (fd_r fcX10_columnsAsked (by decide +kernel))
theorem dX10_columnsAsked_31 : decode cX10_columnsAsked 31 = .ok (.istore 6, 2) := dq_54 (a := 6) (fd_r fcX10_columnsAsked (by decide +kernel))
theorem dX10_columnsAsked_33 : decode cX10_columnsAsked 33 = .ok (.iload 6, 2) := dq_21 (a := 6) (fd_r fcX10_columnsAsked (by decide +kernel))
theorem dX10_columnsAsked_35 : decode cX10_columnsAsked 35 = .ok (.bipush 20, 2) := dq_16 (a := 20) (fd_r fcX10_columnsAsked (by decide +kernel)) rfl
theorem dX10_columnsAsked_37 : decode cX10_columnsAsked 37 = .ok (.if_icmp .gt 127, 3) := dq_163 (a := 0) (b := 127) (fd_r fcX10_columnsAsked (by decide +kernel)) rfl
theorem dX10_columnsAsked_40 : decode cX10_columnsAsked 40 = .ok (.iload_n 3, 1) := dq_29 (fd_r fcX10_columnsAsked (by decide +kernel))
theorem dX10_columnsAsked_41 : decode cX10_columnsAsked 41 = .ok (.ifCond .eq 123, 3) := dq_153 (a := 0) (b := 123) (fd_r fcX10_columnsAsked (by decide +kernel)) rfl
theorem dX10_columnsAsked_44 : decode cX10_columnsAsked 44 = .ok (.aload_n 0, 1) := dq_42 (fd_r fcX10_columnsAsked (by decide +kernel))
theorem dX10_columnsAsked_45 : decode cX10_columnsAsked 45 = .ok (.iload_n 3, 1) := dq_29 (fd_r fcX10_columnsAsked (by decide +kernel))
theorem dX10_columnsAsked_46 : decode cX10_columnsAsked 46 = .ok (.iload 4, 2) := dq_21 (a := 4) (fd_r fcX10_columnsAsked (by decide +kernel))
theorem dX10_columnsAsked_48 : decode cX10_columnsAsked 48 = .ok (.invokevirtual 145, 3) := dq_182 (a := 0) (b := 145) (fd_r fcX10_columnsAsked (by decide +kernel)) rfl
theorem dX10_columnsAsked_51 : decode cX10_columnsAsked 51 = .ok (.istore 7, 2) := dq_54 (a := 7) (fd_r fcX10_columnsAsked (by decide +kernel))
theorem dX10_columnsAsked_53 : decode cX10_columnsAsked 53 = .ok (.iload 7, 2) := dq_21 (a := 7) (fd_r fcX10_columnsAsked (by decide +kernel))
theorem dX10_columnsAsked_55 : decode cX10_columnsAsked 55 = .ok (.iconst (-1), 1) := dq_2 (fd_r fcX10_columnsAsked (by decide +kernel))
theorem dX10_columnsAsked_56 : decode cX10_columnsAsked 56 = .ok (.if_icmp .eq 42, 3) := dq_159 (a := 0) (b := 42) (fd_r fcX10_columnsAsked (by decide +kernel)) rfl
theorem dX10_columnsAsked_59 : decode cX10_columnsAsked 59 = .ok (.iinc 5 1, 3) := dq_132 (a := 5) (b := 1) (fd_r fcX10_columnsAsked (by decide +kernel)) rfl
theorem dX10_columnsAsked_62 : decode cX10_columnsAsked 62 = .ok (.iload_n 3, 1) := dq_29 (fd_r fcX10_columnsAsked (by decide +kernel))
theorem dX10_columnsAsked_63 : decode cX10_columnsAsked 63 = .ok (.aload_n 0, 1) := dq_42 (fd_r fcX10_columnsAsked (by decide +kernel))
theorem dX10_columnsAsked_64 : decode cX10_columnsAsked 64 = .ok (.getfield 29, 3) := dq_180 (a := 0) (b := 29) (fd_r fcX10_columnsAsked (by decide +kernel)) rfl
theorem dX10_columnsAsked_67 : decode cX10_columnsAsked 67 = .ok (.iload 7, 2) := dq_21 (a := 7) (fd_r fcX10_columnsAsked (by decide +kernel))
theorem dX10_columnsAsked_69 : decode cX10_columnsAsked 69 = .ok (.aload_n 0, 1) := dq_42 (fd_r fcX10_columnsAsked (by decide +kernel))
theorem dX10_columnsAsked_70 : decode cX10_columnsAsked 70 = .ok (.getfield 29, 3) := dq_180 (a := 0) (b := 29) (fd_r fcX10_columnsAsked (by decide +kernel)) rfl
theorem dX10_columnsAsked_73 : decode cX10_columnsAsked 73 = .ok (.iload_n 2, 1) := dq_28 (fd_r fcX10_columnsAsked (by decide +kernel))
theorem dX10_columnsAsked_74 : decode cX10_columnsAsked 74 = .ok (.iload 7, 2) := dq_21 (a := 7) (fd_r fcX10_columnsAsked (by decide +kernel))
theorem dX10_columnsAsked_76 : decode cX10_columnsAsked 76 = .ok (.invokevirtual 180, 3) := dq_182 (a := 0) (b := 180) (fd_r fcX10_columnsAsked (by decide +kernel)) rfl
theorem dX10_columnsAsked_79 : decode cX10_columnsAsked 79 = .ok (.invokevirtual 56, 3) := dq_182 (a := 0) (b := 56) (fd_r fcX10_columnsAsked (by decide +kernel)) rfl
theorem dX10_columnsAsked_82 : decode cX10_columnsAsked 82 = .ok (.iand, 1) := dq_126 (fd_r fcX10_columnsAsked (by decide +kernel))
theorem dX10_columnsAsked_83 : decode cX10_columnsAsked 83 = .ok (.istore_n 3, 1) := dq_62 (fd_r fcX10_columnsAsked (by decide +kernel))
theorem dX10_columnsAsked_84 : decode cX10_columnsAsked 84 = .ok (.iload 4, 2) := dq_21 (a := 4) (fd_r fcX10_columnsAsked (by decide +kernel))
theorem dX10_columnsAsked_86 : decode cX10_columnsAsked 86 = .ok (.iconst 1, 1) := dq_4 (fd_r fcX10_columnsAsked (by decide +kernel))
theorem dX10_columnsAsked_87 : decode cX10_columnsAsked 87 = .ok (.iload 7, 2) := dq_21 (a := 7) (fd_r fcX10_columnsAsked (by decide +kernel))
theorem dX10_columnsAsked_89 : decode cX10_columnsAsked 89 = .ok (.ishl, 1) := dq_120 (fd_r fcX10_columnsAsked (by decide +kernel))
theorem dX10_columnsAsked_90 : decode cX10_columnsAsked 90 = .ok (.iconst (-1), 1) := dq_2 (fd_r fcX10_columnsAsked (by decide +kernel))
theorem dX10_columnsAsked_91 : decode cX10_columnsAsked 91 = .ok (.ixor, 1) := dq_130 (fd_r fcX10_columnsAsked (by decide +kernel))
theorem dX10_columnsAsked_92 : decode cX10_columnsAsked 92 = .ok (.iand, 1) := dq_126 (fd_r fcX10_columnsAsked (by decide +kernel))
theorem dX10_columnsAsked_93 : decode cX10_columnsAsked 93 = .ok (.istore 4, 2) := dq_54 (a := 4) (fd_r fcX10_columnsAsked (by decide +kernel))
theorem dX10_columnsAsked_95 : decode cX10_columnsAsked 95 = .ok (.goto 63, 3) := dq_167 (a := 0) (b := 63) (fd_r fcX10_columnsAsked (by decide +kernel)) rfl
theorem dX10_columnsAsked_98 : decode cX10_columnsAsked 98 = .ok (.aload_n 0, 1) := dq_42 (fd_r fcX10_columnsAsked (by decide +kernel))
theorem dX10_columnsAsked_99 : decode cX10_columnsAsked 99 = .ok (.getfield 33, 3) := dq_180 (a := 0) (b := 33) (fd_r fcX10_columnsAsked (by decide +kernel)) rfl
theorem dX10_columnsAsked_102 : decode cX10_columnsAsked 102 = .ok (.iload_n 3, 1) := dq_29 (fd_r fcX10_columnsAsked (by decide +kernel))
theorem dX10_columnsAsked_103 : decode cX10_columnsAsked 103 = .ok (.invokevirtual 64, 3) := dq_182 (a := 0) (b := 64) (fd_r fcX10_columnsAsked (by decide +kernel)) rfl
theorem dX10_columnsAsked_106 : decode cX10_columnsAsked 106 = .ok (.istore 8, 2) := dq_54 (a := 8) (fd_r fcX10_columnsAsked (by decide +kernel))
theorem dX10_columnsAsked_108 : decode cX10_columnsAsked 108 = .ok (.aload_n 0, 1) := dq_42 (fd_r fcX10_columnsAsked (by decide +kernel))
theorem dX10_columnsAsked_109 : decode cX10_columnsAsked 109 = .ok (.getfield 29, 3) := dq_180 (a := 0) (b := 29) (fd_r fcX10_columnsAsked (by decide +kernel)) rfl
theorem dX10_columnsAsked_112 : decode cX10_columnsAsked 112 = .ok (.iload 8, 2) := dq_21 (a := 8) (fd_r fcX10_columnsAsked (by decide +kernel))
theorem dX10_columnsAsked_114 : decode cX10_columnsAsked 114 = .ok (.invokevirtual 148, 3) := dq_182 (a := 0) (b := 148) (fd_r fcX10_columnsAsked (by decide +kernel)) rfl
theorem dX10_columnsAsked_117 : decode cX10_columnsAsked 117 = .ok (.istore 9, 2) := dq_54 (a := 9) (fd_r fcX10_columnsAsked (by decide +kernel))
theorem dX10_columnsAsked_119 : decode cX10_columnsAsked 119 = .ok (.iload 8, 2) := dq_21 (a := 8) (fd_r fcX10_columnsAsked (by decide +kernel))
theorem dX10_columnsAsked_121 : decode cX10_columnsAsked 121 = .ok (.iconst (-1), 1) := dq_2 (fd_r fcX10_columnsAsked (by decide +kernel))
theorem dX10_columnsAsked_122 : decode cX10_columnsAsked 122 = .ok (.if_icmp .eq 24, 3) := dq_159 (a := 0) (b := 24) (fd_r fcX10_columnsAsked (by decide +kernel)) rfl
theorem dX10_columnsAsked_125 : decode cX10_columnsAsked 125 = .ok (.iload 9, 2) := dq_21 (a := 9) (fd_r fcX10_columnsAsked (by decide +kernel))
theorem dX10_columnsAsked_127 : decode cX10_columnsAsked 127 = .ok (.iconst (-1), 1) := dq_2 (fd_r fcX10_columnsAsked (by decide +kernel))
theorem dX10_columnsAsked_128 : decode cX10_columnsAsked 128 = .ok (.if_icmp .eq 18, 3) := dq_159 (a := 0) (b := 18) (fd_r fcX10_columnsAsked (by decide +kernel)) rfl
theorem dX10_columnsAsked_131 : decode cX10_columnsAsked 131 = .ok (.aload_n 0, 1) := dq_42 (fd_r fcX10_columnsAsked (by decide +kernel))
theorem dX10_columnsAsked_132 : decode cX10_columnsAsked 132 = .ok (.getfield 33, 3) := dq_180 (a := 0) (b := 33) (fd_r fcX10_columnsAsked (by decide +kernel)) rfl
theorem dX10_columnsAsked_135 : decode cX10_columnsAsked 135 = .ok (.getfield 170, 3) := dq_180 (a := 0) (b := 170) (fd_r fcX10_columnsAsked (by decide +kernel)) rfl
theorem dX10_columnsAsked_138 : decode cX10_columnsAsked 138 = .ok (.iload 9, 2) := dq_21 (a := 9) (fd_r fcX10_columnsAsked (by decide +kernel))
theorem dX10_columnsAsked_140 : decode cX10_columnsAsked 140 = .ok (.invokestatic 70, 3) := dq_184 (a := 0) (b := 70) (fd_r fcX10_columnsAsked (by decide +kernel)) rfl
theorem dX10_columnsAsked_143 : decode cX10_columnsAsked 143 = .ok (.ifCond .eq 6, 3) := dq_153 (a := 0) (b := 6) (fd_r fcX10_columnsAsked (by decide +kernel)) rfl
theorem dX10_columnsAsked_146 : decode cX10_columnsAsked 146 = .ok (.iload 5, 2) := dq_21 (a := 5) (fd_r fcX10_columnsAsked (by decide +kernel))
theorem dX10_columnsAsked_148 : decode cX10_columnsAsked 148 = .ok (.ireturn, 1) := dq_172 (fd_r fcX10_columnsAsked (by decide +kernel))
theorem dX10_columnsAsked_149 : decode cX10_columnsAsked 149 = .ok (.iload_n 3, 1) := dq_29 (fd_r fcX10_columnsAsked (by decide +kernel))
theorem dX10_columnsAsked_150 : decode cX10_columnsAsked 150 = .ok (.iconst 1, 1) := dq_4 (fd_r fcX10_columnsAsked (by decide +kernel))
theorem dX10_columnsAsked_151 : decode cX10_columnsAsked 151 = .ok (.iload 8, 2) := dq_21 (a := 8) (fd_r fcX10_columnsAsked (by decide +kernel))
theorem dX10_columnsAsked_153 : decode cX10_columnsAsked 153 = .ok (.ishl, 1) := dq_120 (fd_r fcX10_columnsAsked (by decide +kernel))
theorem dX10_columnsAsked_154 : decode cX10_columnsAsked 154 = .ok (.iconst (-1), 1) := dq_2 (fd_r fcX10_columnsAsked (by decide +kernel))
theorem dX10_columnsAsked_155 : decode cX10_columnsAsked 155 = .ok (.ixor, 1) := dq_130 (fd_r fcX10_columnsAsked (by decide +kernel))
theorem dX10_columnsAsked_156 : decode cX10_columnsAsked 156 = .ok (.iand, 1) := dq_126 (fd_r fcX10_columnsAsked (by decide +kernel))
theorem dX10_columnsAsked_157 : decode cX10_columnsAsked 157 = .ok (.istore_n 3, 1) := dq_62 (fd_r fcX10_columnsAsked (by decide +kernel))
theorem dX10_columnsAsked_158 : decode cX10_columnsAsked 158 = .ok (.iinc 6 1, 3) := dq_132 (a := 6) (b := 1) (fd_r fcX10_columnsAsked (by decide +kernel)) rfl
theorem dX10_columnsAsked_161 : decode cX10_columnsAsked 161 = .ok (.goto (-128), 3) := dq_167 (a := 255) (b := 128) (fd_r fcX10_columnsAsked (by decide +kernel)) rfl
theorem dX10_columnsAsked_164 : decode cX10_columnsAsked 164 = .ok (.iload 5, 2) := dq_21 (a := 5) (fd_r fcX10_columnsAsked (by decide +kernel))
theorem dX10_columnsAsked_166 : decode cX10_columnsAsked 166 = .ok (.ireturn, 1) := dq_172 (fd_r fcX10_columnsAsked (by decide +kernel))
theorem dX10_buildAll_0 : decode cX10_buildAll 0 = .ok (.aload_n 0, 1) := dq_42 (fd_r fcX10_buildAll (by decide +kernel))
theorem dX10_buildAll_1 : decode cX10_buildAll 1 = .ok (.aload_n 1, 1) := dq_43 (fd_r fcX10_buildAll (by decide +kernel))
theorem dX10_buildAll_2 : decode cX10_buildAll 2 = .ok (.putfield 33, 3) := dq_181 (a := 0) (b := 33) (fd_r fcX10_buildAll (by decide +kernel)) rfl
theorem dX10_buildAll_5 : decode cX10_buildAll 5 = .ok (.aload_n 0, 1) := dq_42 (fd_r fcX10_buildAll (by decide +kernel))
theorem dX10_buildAll_6 : decode cX10_buildAll 6 = .ok (.iload_n 2, 1) := dq_28 (fd_r fcX10_buildAll (by decide +kernel))
theorem dX10_buildAll_7 : decode cX10_buildAll 7 = .ok (.putfield 80, 3) := dq_181 (a := 0) (b := 80) (fd_r fcX10_buildAll (by decide +kernel)) rfl
theorem dX10_buildAll_10 : decode cX10_buildAll 10 = .ok (.aload_n 0, 1) := dq_42 (fd_r fcX10_buildAll (by decide +kernel))
theorem dX10_buildAll_11 : decode cX10_buildAll 11 = .ok (.iconst 0, 1) := dq_3 (fd_r fcX10_buildAll (by decide +kernel))
theorem dX10_buildAll_12 : decode cX10_buildAll 12 = .ok (.putfield 183, 3) := dq_181 (a := 0) (b := 183) (fd_r fcX10_buildAll (by decide +kernel)) rfl
theorem dX10_buildAll_15 : decode cX10_buildAll 15 = .ok (.aload_n 0, 1) := dq_42 (fd_r fcX10_buildAll (by decide +kernel))
theorem dX10_buildAll_16 : decode cX10_buildAll 16 = .ok (.iconst 0, 1) := dq_3 (fd_r fcX10_buildAll (by decide +kernel))
theorem dX10_buildAll_17 : decode cX10_buildAll 17 = .ok (.putfield 186, 3) := dq_181 (a := 0) (b := 186) (fd_r fcX10_buildAll (by decide +kernel)) rfl
theorem dX10_buildAll_20 : decode cX10_buildAll 20 = .ok (.aload_n 0, 1) := dq_42 (fd_r fcX10_buildAll (by decide +kernel))
theorem dX10_buildAll_21 : decode cX10_buildAll 21 = .ok (.iconst 0, 1) := dq_3 (fd_r fcX10_buildAll (by decide +kernel))
theorem dX10_buildAll_22 : decode cX10_buildAll 22 = .ok (.putfield 189, 3) := dq_181 (a := 0) (b := 189) (fd_r fcX10_buildAll (by decide +kernel)) rfl
theorem dX10_buildAll_25 : decode cX10_buildAll 25 = .ok (.aload_n 0, 1) := dq_42 (fd_r fcX10_buildAll (by decide +kernel))
theorem dX10_buildAll_26 : decode cX10_buildAll 26 = .ok (.iconst 0, 1) := dq_3 (fd_r fcX10_buildAll (by decide +kernel))
theorem dX10_buildAll_27 : decode cX10_buildAll 27 = .ok (.putfield 192, 3) := dq_181 (a := 0) (b := 192) (fd_r fcX10_buildAll (by decide +kernel)) rfl
theorem dX10_buildAll_30 : decode cX10_buildAll 30 = .ok (.aload_n 0, 1) := dq_42 (fd_r fcX10_buildAll (by decide +kernel))
theorem dX10_buildAll_31 : decode cX10_buildAll 31 = .ok (.iconst 0, 1) := dq_3 (fd_r fcX10_buildAll (by decide +kernel))
theorem dX10_buildAll_32 : decode cX10_buildAll 32 = .ok (.putfield 195, 3) := dq_181 (a := 0) (b := 195) (fd_r fcX10_buildAll (by decide +kernel)) rfl
theorem dX10_buildAll_35 : decode cX10_buildAll 35 = .ok (.aload_n 0, 1) := dq_42 (fd_r fcX10_buildAll (by decide +kernel))
theorem dX10_buildAll_36 : decode cX10_buildAll 36 = .ok (.aload_n 0, 1) := dq_42 (fd_r fcX10_buildAll (by decide +kernel))
theorem dX10_buildAll_37 : decode cX10_buildAll 37 = .ok (.getfield 33, 3) := dq_180 (a := 0) (b := 33) (fd_r fcX10_buildAll (by decide +kernel)) rfl
theorem dX10_buildAll_40 : decode cX10_buildAll 40 = .ok (.invokevirtual 134, 3) := dq_182 (a := 0) (b := 134) (fd_r fcX10_buildAll (by decide +kernel)) rfl
theorem dX10_buildAll_43 : decode cX10_buildAll 43 = .ok (.aload_n 0, 1) := dq_42 (fd_r fcX10_buildAll (by decide +kernel))
theorem dX10_buildAll_44 : decode cX10_buildAll 44 = .ok (.invokevirtual 138, 3) := dq_182 (a := 0) (b := 138) (fd_r fcX10_buildAll (by decide +kernel)) rfl
theorem dX10_buildAll_47 : decode cX10_buildAll 47 = .ok (.iconst 0, 1) := dq_3 (fd_r fcX10_buildAll (by decide +kernel))
theorem dX10_buildAll_48 : decode cX10_buildAll 48 = .ok (.invokestatic 199, 3) := dq_184 (a := 0) (b := 199) (fd_r fcX10_buildAll (by decide +kernel)) rfl
theorem dX10_buildAll_51 : decode cX10_buildAll 51 = .ok (.return_, 1) := dq_177 (fd_r fcX10_buildAll (by decide +kernel))
theorem dX10_build_0 : decode cX10_build 0 = .ok (.aload_n 0, 1) := dq_42 (fd_r fcX10_build (by decide +kernel))
theorem dX10_build_1 : decode cX10_build 1 = .ok (.getfield 183, 3) := dq_180 (a := 0) (b := 183) (fd_r fcX10_build (by decide +kernel)) rfl
theorem dX10_build_4 : decode cX10_build 4 = .ok (.aload_n 0, 1) := dq_42 (fd_r fcX10_build (by decide +kernel))
theorem dX10_build_5 : decode cX10_build 5 = .ok (.getfield 29, 3) := dq_180 (a := 0) (b := 29) (fd_r fcX10_build (by decide +kernel)) rfl
theorem dX10_build_8 : decode cX10_build 8 = .ok (.getfield 203, 3) := dq_180 (a := 0) (b := 203) (fd_r fcX10_build (by decide +kernel)) rfl
theorem dX10_build_11 : decode cX10_build 11 = .ok (.if_icmp .ge 9, 3) := dq_162 (a := 0) (b := 9) (fd_r fcX10_build (by decide +kernel)) rfl
theorem dX10_build_14 : decode cX10_build 14 = .ok (.iload_n 3, 1) := dq_29 (fd_r fcX10_build (by decide +kernel))
theorem dX10_build_15 : decode cX10_build 15 = .ok (.bipush 20, 2) := dq_16 (a := 20) (fd_r fcX10_build (by decide +kernel)) rfl
theorem dX10_build_17 : decode cX10_build 17 = .ok (.if_icmp .le 9, 3) := dq_164 (a := 0) (b := 9) (fd_r fcX10_build (by decide +kernel)) rfl
theorem dX10_build_20 : decode cX10_build 20 = .ok (.aload_n 0, 1) := dq_42 (fd_r fcX10_build (by decide +kernel))
theorem dX10_build_21 : decode cX10_build 21 = .ok (.iconst 1, 1) := dq_4 (fd_r fcX10_build (by decide +kernel))
theorem dX10_build_22 : decode cX10_build 22 = .ok (.putfield 195, 3) := dq_181 (a := 0) (b := 195) (fd_r fcX10_build (by decide +kernel)) rfl
theorem dX10_build_25 : decode cX10_build 25 = .ok (.return_, 1) := dq_177 (fd_r fcX10_build (by decide +kernel))
theorem dX10_build_26 : decode cX10_build 26 = .ok (.aload_n 0, 1) := dq_42 (fd_r fcX10_build (by decide +kernel))
theorem dX10_build_27 : decode cX10_build 27 = .ok (.getfield 183, 3) := dq_180 (a := 0) (b := 183) (fd_r fcX10_build (by decide +kernel)) rfl
theorem dX10_build_30 : decode cX10_build 30 = .ok (.istore 4, 2) := dq_54 (a := 4) (fd_r fcX10_build (by decide +kernel))
theorem dX10_build_32 : decode cX10_build 32 = .ok (.aload_n 0, 1) := dq_42 (fd_r fcX10_build (by decide +kernel))
theorem dX10_build_33 : decode cX10_build 33 = .ok (.invokevirtual 206, 3) := dq_182 (a := 0) (b := 206) (fd_r fcX10_build (by decide +kernel)) rfl
theorem dX10_build_36 : decode cX10_build 36 = .ok (.aload_n 0, 1) := dq_42 (fd_r fcX10_build (by decide +kernel))
theorem dX10_build_37 : decode cX10_build 37 = .ok (.iload_n 1, 1) := dq_27 (fd_r fcX10_build (by decide +kernel))
theorem dX10_build_38 : decode cX10_build 38 = .ok (.iload_n 2, 1) := dq_28 (fd_r fcX10_build (by decide +kernel))
theorem dX10_build_39 : decode cX10_build 39 = .ok (.invokevirtual 145, 3) := dq_182 (a := 0) (b := 145) (fd_r fcX10_build (by decide +kernel)) rfl
theorem dX10_build_42 : decode cX10_build 42 = .ok (.istore 5, 2) := dq_54 (a := 5) (fd_r fcX10_build (by decide +kernel))
theorem dX10_build_44 : decode cX10_build 44 = .ok (.aload_n 0, 1) := dq_42 (fd_r fcX10_build (by decide +kernel))
theorem dX10_build_45 : decode cX10_build 45 = .ok (.getfield 33, 3) := dq_180 (a := 0) (b := 33) (fd_r fcX10_build (by decide +kernel)) rfl
theorem dX10_build_48 : decode cX10_build 48 = .ok (.iload_n 1, 1) := dq_27 (fd_r fcX10_build (by decide +kernel))
theorem dX10_build_49 : decode cX10_build 49 = .ok (.invokevirtual 64, 3) := dq_182 (a := 0) (b := 64) (fd_r fcX10_build (by decide +kernel)) rfl
theorem dX10_build_52 : decode cX10_build 52 = .ok (.istore 6, 2) := dq_54 (a := 6) (fd_r fcX10_build (by decide +kernel))
theorem dX10_build_54 : decode cX10_build 54 = .ok (.iload 5, 2) := dq_21 (a := 5) (fd_r fcX10_build (by decide +kernel))
theorem dX10_build_56 : decode cX10_build 56 = .ok (.iconst (-1), 1) := dq_2 (fd_r fcX10_build (by decide +kernel))
theorem dX10_build_57 : decode cX10_build 57 = .ok (.if_icmp .eq 69, 3) := dq_159 (a := 0) (b := 69) (fd_r fcX10_build (by decide +kernel)) rfl
theorem dX10_build_60 : decode cX10_build 60 = .ok (.aload_n 0, 1) := dq_42 (fd_r fcX10_build (by decide +kernel))
theorem dX10_build_61 : decode cX10_build 61 = .ok (.iload_n 1, 1) := dq_27 (fd_r fcX10_build (by decide +kernel))
theorem dX10_build_62 : decode cX10_build 62 = .ok (.iload_n 2, 1) := dq_28 (fd_r fcX10_build (by decide +kernel))
theorem dX10_build_63 : decode cX10_build 63 = .ok (.iload 5, 2) := dq_21 (a := 5) (fd_r fcX10_build (by decide +kernel))
theorem dX10_build_65 : decode cX10_build 65 = .ok (.invokevirtual 154, 3) := dq_182 (a := 0) (b := 154) (fd_r fcX10_build (by decide +kernel)) rfl
theorem dX10_build_68 : decode cX10_build 68 = .ok (.astore 7, 2) := dq_58 (a := 7) (fd_r fcX10_build (by decide +kernel))
theorem dX10_build_70 : decode cX10_build 70 = .ok (.iload_n 2, 1) := dq_28 (fd_r fcX10_build (by decide +kernel))
theorem dX10_build_71 : decode cX10_build 71 = .ok (.iconst 1, 1) := dq_4 (fd_r fcX10_build (by decide +kernel))
theorem dX10_build_72 : decode cX10_build 72 = .ok (.iload 5, 2) := dq_21 (a := 5) (fd_r fcX10_build (by decide +kernel))
theorem dX10_build_74 : decode cX10_build 74 = .ok (.ishl, 1) := dq_120 (fd_r fcX10_build (by decide +kernel))
theorem dX10_build_75 : decode cX10_build 75 = .ok (.iconst (-1), 1) := dq_2 (fd_r fcX10_build (by decide +kernel))
theorem dX10_build_76 : decode cX10_build 76 = .ok (.ixor, 1) := dq_130 (fd_r fcX10_build (by decide +kernel))
theorem dX10_build_77 : decode cX10_build 77 = .ok (.iand, 1) := dq_126 (fd_r fcX10_build (by decide +kernel))
theorem dX10_build_78 : decode cX10_build 78 = .ok (.istore 8, 2) := dq_54 (a := 8) (fd_r fcX10_build (by decide +kernel))
theorem dX10_build_80 : decode cX10_build 80 = .ok (.iconst 0, 1) := dq_3 (fd_r fcX10_build (by decide +kernel))
theorem dX10_build_81 : decode cX10_build 81 = .ok (.istore 9, 2) := dq_54 (a := 9) (fd_r fcX10_build (by decide +kernel))
theorem dX10_build_83 : decode cX10_build 83 = .ok (.iload 9, 2) := dq_21 (a := 9) (fd_r fcX10_build (by decide +kernel))
theorem dX10_build_85 : decode cX10_build 85 = .ok (.aload 7, 2) := dq_25 (a := 7) (fd_r fcX10_build (by decide +kernel))
theorem dX10_build_87 : decode cX10_build 87 = .ok (.getfield 103, 3) := dq_180 (a := 0) (b := 103) (fd_r fcX10_build (by decide +kernel)) rfl
theorem dX10_build_90 : decode cX10_build 90 = .ok (.if_icmp .ge 33, 3) := dq_162 (a := 0) (b := 33) (fd_r fcX10_build (by decide +kernel)) rfl
theorem dX10_build_93 : decode cX10_build 93 = .ok (.aload_n 0, 1) := dq_42 (fd_r fcX10_build (by decide +kernel))
theorem dX10_build_94 : decode cX10_build 94 = .ok (.getfield 195, 3) := dq_180 (a := 0) (b := 195) (fd_r fcX10_build (by decide +kernel)) rfl
theorem dX10_build_97 : decode cX10_build 97 = .ok (.ifCond .ne 26, 3) := dq_154 (a := 0) (b := 26) (fd_r fcX10_build (by decide +kernel)) rfl
theorem dX10_build_100 : decode cX10_build 100 = .ok (.aload_n 0, 1) := dq_42 (fd_r fcX10_build (by decide +kernel))
theorem dX10_build_101 : decode cX10_build 101 = .ok (.aload 7, 2) := dq_25 (a := 7) (fd_r fcX10_build (by decide +kernel))
theorem dX10_build_103 : decode cX10_build 103 = .ok (.getfield 104, 3) := dq_180 (a := 0) (b := 104) (fd_r fcX10_build (by decide +kernel)) rfl
theorem dX10_build_106 : decode cX10_build 106 = .ok (.iload 9, 2) := dq_21 (a := 9) (fd_r fcX10_build (by decide +kernel))
theorem dX10_build_108 : decode cX10_build 108 = .ok (.iaload, 1) := dq_46 (fd_r fcX10_build (by decide +kernel))
theorem dX10_build_109 : decode cX10_build 109 = .ok (.iload 8, 2) := dq_21 (a := 8) (fd_r fcX10_build (by decide +kernel))
theorem dX10_build_111 : decode cX10_build 111 = .ok (.iload_n 3, 1) := dq_29 (fd_r fcX10_build (by decide +kernel))
theorem dX10_build_112 : decode cX10_build 112 = .ok (.iconst 1, 1) := dq_4 (fd_r fcX10_build (by decide +kernel))
theorem dX10_build_113 : decode cX10_build 113 = .ok (.iadd, 1) := dq_96 (fd_r fcX10_build (by decide +kernel))
theorem dX10_build_114 : decode cX10_build 114 = .ok (.invokestatic 199, 3) := dq_184 (a := 0) (b := 199) (fd_r fcX10_build (by decide +kernel)) rfl
theorem dX10_build_117 : decode cX10_build 117 = .ok (.iinc 9 1, 3) := dq_132 (a := 9) (b := 1) (fd_r fcX10_build (by decide +kernel)) rfl
theorem dX10_build_120 : decode cX10_build 120 = .ok (.goto (-37), 3) := dq_167 (a := 255) (b := 219) (fd_r fcX10_build (by decide +kernel)) rfl
theorem dX10_build_123 : decode cX10_build 123 = .ok (.goto 32, 3) := dq_167 (a := 0) (b := 32) (fd_r fcX10_build (by decide +kernel)) rfl
theorem dX10_build_126 : decode cX10_build 126 = .ok (.aload_n 0, 1) := dq_42 (fd_r fcX10_build (by decide +kernel))
theorem dX10_build_127 : decode cX10_build 127 = .ok (.getfield 29, 3) := dq_180 (a := 0) (b := 29) (fd_r fcX10_build (by decide +kernel)) rfl
theorem dX10_build_130 : decode cX10_build 130 = .ok (.iload 6, 2) := dq_21 (a := 6) (fd_r fcX10_build (by decide +kernel))
theorem dX10_build_132 : decode cX10_build 132 = .ok (.invokevirtual 148, 3) := dq_182 (a := 0) (b := 148) (fd_r fcX10_build (by decide +kernel)) rfl
theorem dX10_build_135 : decode cX10_build 135 = .ok (.iconst (-1), 1) := dq_2 (fd_r fcX10_build (by decide +kernel))
theorem dX10_build_136 : decode cX10_build 136 = .ok (.if_icmp .eq 19, 3) := dq_159 (a := 0) (b := 19) (fd_r fcX10_build (by decide +kernel)) rfl
theorem dX10_build_139 : decode cX10_build 139 = .ok (.aload_n 0, 1) := dq_42 (fd_r fcX10_build (by decide +kernel))
theorem dX10_build_140 : decode cX10_build 140 = .ok (.iload_n 1, 1) := dq_27 (fd_r fcX10_build (by decide +kernel))
theorem dX10_build_141 : decode cX10_build 141 = .ok (.iconst 1, 1) := dq_4 (fd_r fcX10_build (by decide +kernel))
theorem dX10_build_142 : decode cX10_build 142 = .ok (.iload 6, 2) := dq_21 (a := 6) (fd_r fcX10_build (by decide +kernel))
theorem dX10_build_144 : decode cX10_build 144 = .ok (.ishl, 1) := dq_120 (fd_r fcX10_build (by decide +kernel))
theorem dX10_build_145 : decode cX10_build 145 = .ok (.iconst (-1), 1) := dq_2 (fd_r fcX10_build (by decide +kernel))
theorem dX10_build_146 : decode cX10_build 146 = .ok (.ixor, 1) := dq_130 (fd_r fcX10_build (by decide +kernel))
theorem dX10_build_147 : decode cX10_build 147 = .ok (.iand, 1) := dq_126 (fd_r fcX10_build (by decide +kernel))
theorem dX10_build_148 : decode cX10_build 148 = .ok (.iload_n 2, 1) := dq_28 (fd_r fcX10_build (by decide +kernel))
theorem dX10_build_149 : decode cX10_build 149 = .ok (.iload_n 3, 1) := dq_29 (fd_r fcX10_build (by decide +kernel))
theorem dX10_build_150 : decode cX10_build 150 = .ok (.iconst 1, 1) := dq_4 (fd_r fcX10_build (by decide +kernel))
theorem dX10_build_151 : decode cX10_build 151 = .ok (.iadd, 1) := dq_96 (fd_r fcX10_build (by decide +kernel))
theorem dX10_build_152 : decode cX10_build 152 = .ok (.invokestatic 199, 3) := dq_184 (a := 0) (b := 199) (fd_r fcX10_build (by decide +kernel)) rfl
theorem dX10_build_155 : decode cX10_build 155 = .ok (.aload_n 0, 1) := dq_42 (fd_r fcX10_build (by decide +kernel))
theorem dX10_build_156 : decode cX10_build 156 = .ok (.iload 4, 2) := dq_21 (a := 4) (fd_r fcX10_build (by decide +kernel))
theorem dX10_build_158 : decode cX10_build 158 = .ok (.invokevirtual 209, 3) := dq_182 (a := 0) (b := 209) (fd_r fcX10_build (by decide +kernel)) rfl
theorem dX10_build_161 : decode cX10_build 161 = .ok (.return_, 1) := dq_177 (fd_r fcX10_build (by decide +kernel))
theorem dX10_openScope_0 : decode cX10_openScope 0 = .ok (.aload_n 0, 1) := dq_42 (fd_r fcX10_openScope (by decide +kernel))
theorem dX10_openScope_1 : decode cX10_openScope 1 = .ok (.dup, 1) := dq_89 (fd_r fcX10_openScope (by decide +kernel))
theorem dX10_openScope_2 : decode cX10_openScope 2 = .ok (.getfield 183, 3) := dq_180 (a := 0) (b := 183) (fd_r fcX10_openScope (by decide +kernel)) rfl
theorem dX10_openScope_5 : decode cX10_openScope 5 = .ok (.iconst 1, 1) := dq_4 (fd_r fcX10_openScope (by decide +kernel))
theorem dX10_openScope_6 : decode cX10_openScope 6 = .ok (.iadd, 1) := dq_96 (fd_r fcX10_openScope (by decide +kernel))
theorem dX10_openScope_7 : decode cX10_openScope 7 = .ok (.putfield 183, 3) := dq_181 (a := 0) (b := 183) (fd_r fcX10_openScope (by decide +kernel)) rfl
theorem dX10_openScope_10 : decode cX10_openScope 10 = .ok (.aload_n 0, 1) := dq_42 (fd_r fcX10_openScope (by decide +kernel))
theorem dX10_openScope_11 : decode cX10_openScope 11 = .ok (.dup, 1) := dq_89 (fd_r fcX10_openScope (by decide +kernel))
theorem dX10_openScope_12 : decode cX10_openScope 12 = .ok (.getfield 186, 3) := dq_180 (a := 0) (b := 186) (fd_r fcX10_openScope (by decide +kernel)) rfl
theorem dX10_openScope_15 : decode cX10_openScope 15 = .ok (.iconst 1, 1) := dq_4 (fd_r fcX10_openScope (by decide +kernel))
theorem dX10_openScope_16 : decode cX10_openScope 16 = .ok (.iadd, 1) := dq_96 (fd_r fcX10_openScope (by decide +kernel))
theorem dX10_openScope_17 : decode cX10_openScope 17 = .ok (.putfield 186, 3) := dq_181 (a := 0) (b := 186) (fd_r fcX10_openScope (by decide +kernel)) rfl
theorem dX10_openScope_20 : decode cX10_openScope 20 = .ok (.aload_n 0, 1) := dq_42 (fd_r fcX10_openScope (by decide +kernel))
theorem dX10_openScope_21 : decode cX10_openScope 21 = .ok (.aload_n 0, 1) := dq_42 (fd_r fcX10_openScope (by decide +kernel))
theorem dX10_openScope_22 : decode cX10_openScope 22 = .ok (.getfield 189, 3) := dq_180 (a := 0) (b := 189) (fd_r fcX10_openScope (by decide +kernel)) rfl
theorem dX10_openScope_25 : decode cX10_openScope 25 = .ok (.aload_n 0, 1) := dq_42 (fd_r fcX10_openScope (by decide +kernel))
theorem dX10_openScope_26 : decode cX10_openScope 26 = .ok (.getfield 186, 3) := dq_180 (a := 0) (b := 186) (fd_r fcX10_openScope (by decide +kernel)) rfl
theorem dX10_openScope_29 : decode cX10_openScope 29 = .ok (.invokestatic 116, 3) := dq_184 (a := 0) (b := 116) (fd_r fcX10_openScope (by decide +kernel)) rfl
theorem dX10_openScope_32 : decode cX10_openScope 32 = .ok (.putfield 189, 3) := dq_181 (a := 0) (b := 189) (fd_r fcX10_openScope (by decide +kernel)) rfl
theorem dX10_openScope_35 : decode cX10_openScope 35 = .ok (.return_, 1) := dq_177 (fd_r fcX10_openScope (by decide +kernel))
theorem dX10_shutScope_0 : decode cX10_shutScope 0 = .ok (.aload_n 0, 1) := dq_42 (fd_r fcX10_shutScope (by decide +kernel))
theorem dX10_shutScope_1 : decode cX10_shutScope 1 = .ok (.getfield 192, 3) := dq_180 (a := 0) (b := 192) (fd_r fcX10_shutScope (by decide +kernel)) rfl
theorem dX10_shutScope_4 : decode cX10_shutScope 4 = .ok (.ifCond .lt 35, 3) := dq_155 (a := 0) (b := 35) (fd_r fcX10_shutScope (by decide +kernel)) rfl
theorem dX10_shutScope_7 : decode cX10_shutScope 7 = .ok (.aload_n 0, 1) := dq_42 (fd_r fcX10_shutScope (by decide +kernel))
theorem dX10_shutScope_8 : decode cX10_shutScope 8 = .ok (.getfield 192, 3) := dq_180 (a := 0) (b := 192) (fd_r fcX10_shutScope (by decide +kernel)) rfl
theorem dX10_shutScope_11 : decode cX10_shutScope 11 = .ok (.aload_n 0, 1) := dq_42 (fd_r fcX10_shutScope (by decide +kernel))
theorem dX10_shutScope_12 : decode cX10_shutScope 12 = .ok (.getfield 25, 3) := dq_180 (a := 0) (b := 25) (fd_r fcX10_shutScope (by decide +kernel)) rfl
theorem dX10_shutScope_15 : decode cX10_shutScope 15 = .ok (.arraylength, 1) := dq_190 (fd_r fcX10_shutScope (by decide +kernel))
theorem dX10_shutScope_16 : decode cX10_shutScope 16 = .ok (.if_icmp .ge 23, 3) := dq_162 (a := 0) (b := 23) (fd_r fcX10_shutScope (by decide +kernel)) rfl
theorem dX10_shutScope_19 : decode cX10_shutScope 19 = .ok (.aload_n 0, 1) := dq_42 (fd_r fcX10_shutScope (by decide +kernel))
theorem dX10_shutScope_20 : decode cX10_shutScope 20 = .ok (.getfield 25, 3) := dq_180 (a := 0) (b := 25) (fd_r fcX10_shutScope (by decide +kernel)) rfl
theorem dX10_shutScope_23 : decode cX10_shutScope 23 = .ok (.aload_n 0, 1) := dq_42 (fd_r fcX10_shutScope (by decide +kernel))
theorem dX10_shutScope_24 : decode cX10_shutScope 24 = .ok (.getfield 192, 3) := dq_180 (a := 0) (b := 192) (fd_r fcX10_shutScope (by decide +kernel)) rfl
theorem dX10_shutScope_27 : decode cX10_shutScope 27 = .ok (.iload_n 1, 1) := dq_27 (fd_r fcX10_shutScope (by decide +kernel))
theorem dX10_shutScope_28 : decode cX10_shutScope 28 = .ok (.iastore, 1) := dq_79 (fd_r fcX10_shutScope (by decide +kernel))
theorem dX10_shutScope_29 : decode cX10_shutScope 29 = .ok (.aload_n 0, 1) := dq_42 (fd_r fcX10_shutScope (by decide +kernel))
theorem dX10_shutScope_30 : decode cX10_shutScope 30 = .ok (.dup, 1) := dq_89 (fd_r fcX10_shutScope (by decide +kernel))
theorem dX10_shutScope_31 : decode cX10_shutScope 31 = .ok (.getfield 192, 3) := dq_180 (a := 0) (b := 192) (fd_r fcX10_shutScope (by decide +kernel)) rfl
theorem dX10_shutScope_34 : decode cX10_shutScope 34 = .ok (.iconst 1, 1) := dq_4 (fd_r fcX10_shutScope (by decide +kernel))
theorem dX10_shutScope_35 : decode cX10_shutScope 35 = .ok (.iadd, 1) := dq_96 (fd_r fcX10_shutScope (by decide +kernel))
theorem dX10_shutScope_36 : decode cX10_shutScope 36 = .ok (.putfield 192, 3) := dq_181 (a := 0) (b := 192) (fd_r fcX10_shutScope (by decide +kernel)) rfl
theorem dX10_shutScope_39 : decode cX10_shutScope 39 = .ok (.aload_n 0, 1) := dq_42 (fd_r fcX10_shutScope (by decide +kernel))
theorem dX10_shutScope_40 : decode cX10_shutScope 40 = .ok (.dup, 1) := dq_89 (fd_r fcX10_shutScope (by decide +kernel))
theorem dX10_shutScope_41 : decode cX10_shutScope 41 = .ok (.getfield 186, 3) := dq_180 (a := 0) (b := 186) (fd_r fcX10_shutScope (by decide +kernel)) rfl
theorem dX10_shutScope_44 : decode cX10_shutScope 44 = .ok (.iconst 1, 1) := dq_4 (fd_r fcX10_shutScope (by decide +kernel))
theorem dX10_shutScope_45 : decode cX10_shutScope 45 = .ok (.isub, 1) := dq_100 (fd_r fcX10_shutScope (by decide +kernel))
theorem dX10_shutScope_46 : decode cX10_shutScope 46 = .ok (.putfield 186, 3) := dq_181 (a := 0) (b := 186) (fd_r fcX10_shutScope (by decide +kernel)) rfl
theorem dX10_shutScope_49 : decode cX10_shutScope 49 = .ok (.return_, 1) := dq_177 (fd_r fcX10_shutScope (by decide +kernel))
theorem dX10_scopeShutAs_0 : decode cX10_scopeShutAs 0 = .ok (.iload_n 1, 1) := dq_27 (fd_r fcX10_scopeShutAs (by decide +kernel))
theorem dX10_scopeShutAs_1 : decode cX10_scopeShutAs 1 = .ok (.ifCond .lt 29, 3) := dq_155 (a := 0) (b := 29) (fd_r fcX10_scopeShutAs (by decide +kernel)) rfl
theorem dX10_scopeShutAs_4 : decode cX10_scopeShutAs 4 = .ok (.iload_n 1, 1) := dq_27 (fd_r fcX10_scopeShutAs (by decide +kernel))
theorem dX10_scopeShutAs_5 : decode cX10_scopeShutAs 5 = .ok (.aload_n 0, 1) := dq_42 (fd_r fcX10_scopeShutAs (by decide +kernel))
theorem dX10_scopeShutAs_6 : decode cX10_scopeShutAs 6 = .ok (.getfield 192, 3) := dq_180 (a := 0) (b := 192) (fd_r fcX10_scopeShutAs (by decide +kernel)) rfl
theorem dX10_scopeShutAs_9 : decode cX10_scopeShutAs 9 = .ok (.if_icmp .ge 21, 3) := dq_162 (a := 0) (b := 21) (fd_r fcX10_scopeShutAs (by decide +kernel)) rfl
theorem dX10_scopeShutAs_12 : decode cX10_scopeShutAs 12 = .ok (.iload_n 1, 1) := dq_27 (fd_r fcX10_scopeShutAs (by decide +kernel))
theorem dX10_scopeShutAs_13 : decode cX10_scopeShutAs 13 = .ok (.aload_n 0, 1) := dq_42 (fd_r fcX10_scopeShutAs (by decide +kernel))
theorem dX10_scopeShutAs_14 : decode cX10_scopeShutAs 14 = .ok (.getfield 25, 3) := dq_180 (a := 0) (b := 25) (fd_r fcX10_scopeShutAs (by decide +kernel)) rfl
theorem dX10_scopeShutAs_17 : decode cX10_scopeShutAs 17 = .ok (.arraylength, 1) := dq_190 (fd_r fcX10_scopeShutAs (by decide +kernel))
theorem dX10_scopeShutAs_18 : decode cX10_scopeShutAs 18 = .ok (.if_icmp .ge 12, 3) := dq_162 (a := 0) (b := 12) (fd_r fcX10_scopeShutAs (by decide +kernel)) rfl
theorem dX10_scopeShutAs_21 : decode cX10_scopeShutAs 21 = .ok (.aload_n 0, 1) := dq_42 (fd_r fcX10_scopeShutAs (by decide +kernel))
theorem dX10_scopeShutAs_22 : decode cX10_scopeShutAs 22 = .ok (.getfield 25, 3) := dq_180 (a := 0) (b := 25) (fd_r fcX10_scopeShutAs (by decide +kernel)) rfl
theorem dX10_scopeShutAs_25 : decode cX10_scopeShutAs 25 = .ok (.iload_n 1, 1) := dq_27 (fd_r fcX10_scopeShutAs (by decide +kernel))
theorem dX10_scopeShutAs_26 : decode cX10_scopeShutAs 26 = .ok (.iaload, 1) := dq_46 (fd_r fcX10_scopeShutAs (by decide +kernel))
theorem dX10_scopeShutAs_27 : decode cX10_scopeShutAs 27 = .ok (.goto 4, 3) := dq_167 (a := 0) (b := 4) (fd_r fcX10_scopeShutAs (by decide +kernel)) rfl
theorem dX10_scopeShutAs_30 : decode cX10_scopeShutAs 30 = .ok (.iconst (-1), 1) := dq_2 (fd_r fcX10_scopeShutAs (by decide +kernel))
theorem dX10_scopeShutAs_31 : decode cX10_scopeShutAs 31 = .ok (.ireturn, 1) := dq_172 (fd_r fcX10_scopeShutAs (by decide +kernel))
theorem dX11_init_0 : decode cX11_init 0 = .ok (.aload_n 0, 1) := dq_42 (fd_r fcX11_init (by decide +kernel))
theorem dX11_init_1 : decode cX11_init 1 = .ok (.invokespecial 3, 3) := dq_183 (a := 0) (b := 3) (fd_r fcX11_init (by decide +kernel)) rfl
theorem dX11_init_4 : decode cX11_init 4 = .ok (.aload_n 0, 1) := dq_42 (fd_r fcX11_init (by decide +kernel))
theorem dX11_init_5 : decode cX11_init 5 = .ok (.new 9, 3) := dq_187 (a := 0) (b := 9) (fd_r fcX11_init (by decide +kernel)) rfl
theorem dX11_init_8 : decode cX11_init 8 = .ok (.dup, 1) := dq_89 (fd_r fcX11_init (by decide +kernel))
theorem dX11_init_9 : decode cX11_init 9 = .ok (.sipush 1600, 3) := dq_17 (a := 6) (b := 64) (fd_r fcX11_init (by decide +kernel)) rfl
theorem dX11_init_12 : decode cX11_init 12 = .ok (.invokespecial 11, 3) := dq_183 (a := 0) (b := 11) (fd_r fcX11_init (by decide +kernel)) rfl
theorem dX11_init_15 : decode cX11_init 15 = .ok (.putfield 14, 3) := dq_181 (a := 0) (b := 14) (fd_r fcX11_init (by decide +kernel)) rfl
theorem dX11_init_18 : decode cX11_init 18 = .ok (.aload_n 0, 1) := dq_42 (fd_r fcX11_init (by decide +kernel))
theorem dX11_init_19 : decode cX11_init 19 = .ok (.new 9, 3) := dq_187 (a := 0) (b := 9) (fd_r fcX11_init (by decide +kernel)) rfl
theorem dX11_init_22 : decode cX11_init 22 = .ok (.dup, 1) := dq_89 (fd_r fcX11_init (by decide +kernel))
theorem dX11_init_23 : decode cX11_init 23 = .ok (.sipush 1024, 3) := dq_17 (a := 4) (b := 0) (fd_r fcX11_init (by decide +kernel)) rfl
theorem dX11_init_26 : decode cX11_init 26 = .ok (.invokespecial 11, 3) := dq_183 (a := 0) (b := 11) (fd_r fcX11_init (by decide +kernel)) rfl
theorem dX11_init_29 : decode cX11_init 29 = .ok (.putfield 18, 3) := dq_181 (a := 0) (b := 18) (fd_r fcX11_init (by decide +kernel)) rfl
theorem dX11_init_32 : decode cX11_init 32 = .ok (.aload_n 0, 1) := dq_42 (fd_r fcX11_init (by decide +kernel))
theorem dX11_init_33 : decode cX11_init 33 = .ok (.new 21, 3) := dq_187 (a := 0) (b := 21) (fd_r fcX11_init (by decide +kernel)) rfl
theorem dX11_init_36 : decode cX11_init 36 = .ok (.dup, 1) := dq_89 (fd_r fcX11_init (by decide +kernel))
theorem dX11_init_37 : decode cX11_init 37 = .ok (.invokespecial 23, 3) := dq_183 (a := 0) (b := 23) (fd_r fcX11_init (by decide +kernel)) rfl
theorem dX11_init_40 : decode cX11_init 40 = .ok (.putfield 24, 3) := dq_181 (a := 0) (b := 24) (fd_r fcX11_init (by decide +kernel)) rfl
theorem dX11_init_43 : decode cX11_init 43 = .ok (.aload_n 0, 1) := dq_42 (fd_r fcX11_init (by decide +kernel))
theorem dX11_init_44 : decode cX11_init 44 = .ok (.new 28, 3) := dq_187 (a := 0) (b := 28) (fd_r fcX11_init (by decide +kernel)) rfl
theorem dX11_init_47 : decode cX11_init 47 = .ok (.dup, 1) := dq_89 (fd_r fcX11_init (by decide +kernel))
theorem dX11_init_48 : decode cX11_init 48 = .ok (.sipush 4096, 3) := dq_17 (a := 16) (b := 0) (fd_r fcX11_init (by decide +kernel)) rfl
theorem dX11_init_51 : decode cX11_init 51 = .ok (.aload_n 0, 1) := dq_42 (fd_r fcX11_init (by decide +kernel))
theorem dX11_init_52 : decode cX11_init 52 = .ok (.getfield 24, 3) := dq_180 (a := 0) (b := 24) (fd_r fcX11_init (by decide +kernel)) rfl
theorem dX11_init_55 : decode cX11_init 55 = .ok (.invokespecial 30, 3) := dq_183 (a := 0) (b := 30) (fd_r fcX11_init (by decide +kernel)) rfl
theorem dX11_init_58 : decode cX11_init 58 = .ok (.putfield 33, 3) := dq_181 (a := 0) (b := 33) (fd_r fcX11_init (by decide +kernel)) rfl
theorem dX11_init_61 : decode cX11_init 61 = .ok (.aload_n 0, 1) := dq_42 (fd_r fcX11_init (by decide +kernel))
theorem dX11_init_62 : decode cX11_init 62 = .ok (.new 28, 3) := dq_187 (a := 0) (b := 28) (fd_r fcX11_init (by decide +kernel)) rfl
theorem dX11_init_65 : decode cX11_init 65 = .ok (.dup, 1) := dq_89 (fd_r fcX11_init (by decide +kernel))
theorem dX11_init_66 : decode cX11_init 66 = .ok (.sipush 4096, 3) := dq_17 (a := 16) (b := 0) (fd_r fcX11_init (by decide +kernel)) rfl
theorem dX11_init_69 : decode cX11_init 69 = .ok (.aload_n 0, 1) := dq_42 (fd_r fcX11_init (by decide +kernel))
theorem dX11_init_70 : decode cX11_init 70 = .ok (.getfield 24, 3) := dq_180 (a := 0) (b := 24) (fd_r fcX11_init (by decide +kernel)) rfl
theorem dX11_init_73 : decode cX11_init 73 = .ok (.invokespecial 30, 3) := dq_183 (a := 0) (b := 30) (fd_r fcX11_init (by decide +kernel)) rfl
theorem dX11_init_76 : decode cX11_init 76 = .ok (.putfield 37, 3) := dq_181 (a := 0) (b := 37) (fd_r fcX11_init (by decide +kernel)) rfl
theorem dX11_init_79 : decode cX11_init 79 = .ok (.aload_n 0, 1) := dq_42 (fd_r fcX11_init (by decide +kernel))
theorem dX11_init_80 : decode cX11_init 80 = .ok (.new 40, 3) := dq_187 (a := 0) (b := 40) (fd_r fcX11_init (by decide +kernel)) rfl
theorem dX11_init_83 : decode cX11_init 83 = .ok (.dup, 1) := dq_89 (fd_r fcX11_init (by decide +kernel))
theorem dX11_init_84 : decode cX11_init 84 = .ok (.invokespecial 42, 3) := dq_183 (a := 0) (b := 42) (fd_r fcX11_init (by decide +kernel)) rfl
theorem dX11_init_87 : decode cX11_init 87 = .ok (.putfield 43, 3) := dq_181 (a := 0) (b := 43) (fd_r fcX11_init (by decide +kernel)) rfl
theorem dX11_init_90 : decode cX11_init 90 = .ok (.aload_n 0, 1) := dq_42 (fd_r fcX11_init (by decide +kernel))
theorem dX11_init_91 : decode cX11_init 91 = .ok (.new 40, 3) := dq_187 (a := 0) (b := 40) (fd_r fcX11_init (by decide +kernel)) rfl
theorem dX11_init_94 : decode cX11_init 94 = .ok (.dup, 1) := dq_89 (fd_r fcX11_init (by decide +kernel))
theorem dX11_init_95 : decode cX11_init 95 = .ok (.invokespecial 42, 3) := dq_183 (a := 0) (b := 42) (fd_r fcX11_init (by decide +kernel)) rfl
theorem dX11_init_98 : decode cX11_init 98 = .ok (.putfield 47, 3) := dq_181 (a := 0) (b := 47) (fd_r fcX11_init (by decide +kernel)) rfl
theorem dX11_init_101 : decode cX11_init 101 = .ok (.aload_n 0, 1) := dq_42 (fd_r fcX11_init (by decide +kernel))
theorem dX11_init_102 : decode cX11_init 102 = .ok (.new 50, 3) := dq_187 (a := 0) (b := 50) (fd_r fcX11_init (by decide +kernel)) rfl
theorem dX11_init_105 : decode cX11_init 105 = .ok (.dup, 1) := dq_89 (fd_r fcX11_init (by decide +kernel))
theorem dX11_init_106 : decode cX11_init 106 = .ok (.invokespecial 52, 3) := dq_183 (a := 0) (b := 52) (fd_r fcX11_init (by decide +kernel)) rfl
theorem dX11_init_109 : decode cX11_init 109 = .ok (.putfield 53, 3) := dq_181 (a := 0) (b := 53) (fd_r fcX11_init (by decide +kernel)) rfl
theorem dX11_init_112 : decode cX11_init 112 = .ok (.aload_n 0, 1) := dq_42 (fd_r fcX11_init (by decide +kernel))
theorem dX11_init_113 : decode cX11_init 113 = .ok (.new 57, 3) := dq_187 (a := 0) (b := 57) (fd_r fcX11_init (by decide +kernel)) rfl
theorem dX11_init_116 : decode cX11_init 116 = .ok (.dup, 1) := dq_89 (fd_r fcX11_init (by decide +kernel))
theorem dX11_init_117 : decode cX11_init 117 = .ok (.invokespecial 59, 3) := dq_183 (a := 0) (b := 59) (fd_r fcX11_init (by decide +kernel)) rfl
theorem dX11_init_120 : decode cX11_init 120 = .ok (.putfield 60, 3) := dq_181 (a := 0) (b := 60) (fd_r fcX11_init (by decide +kernel)) rfl
theorem dX11_init_123 : decode cX11_init 123 = .ok (.aload_n 0, 1) := dq_42 (fd_r fcX11_init (by decide +kernel))
theorem dX11_init_124 : decode cX11_init 124 = .ok (.bipush 6, 2) := dq_16 (a := 6) (fd_r fcX11_init (by decide +kernel)) rfl
theorem dX11_init_126 : decode cX11_init 126 = .ok (.newarray .int, 2) := by decide +kernel
theorem dX11_init_128 : decode cX11_init 128 = .ok (.putfield 64, 3) := dq_181 (a := 0) (b := 64) (fd_r fcX11_init (by decide +kernel)) rfl
theorem dX11_init_131 : decode cX11_init 131 = .ok (.aload_n 0, 1) := dq_42 (fd_r fcX11_init (by decide +kernel))
theorem dX11_init_132 : decode cX11_init 132 = .ok (.new 68, 3) := dq_187 (a := 0) (b := 68) (fd_r fcX11_init (by decide +kernel)) rfl
theorem dX11_init_135 : decode cX11_init 135 = .ok (.dup, 1) := dq_89 (fd_r fcX11_init (by decide +kernel))
theorem dX11_init_136 : decode cX11_init 136 = .ok (.invokespecial 70, 3) := dq_183 (a := 0) (b := 70) (fd_r fcX11_init (by decide +kernel)) rfl
theorem dX11_init_139 : decode cX11_init 139 = .ok (.putfield 71, 3) := dq_181 (a := 0) (b := 71) (fd_r fcX11_init (by decide +kernel)) rfl
theorem dX11_init_142 : decode cX11_init 142 = .ok (.aload_n 0, 1) := dq_42 (fd_r fcX11_init (by decide +kernel))
theorem dX11_init_143 : decode cX11_init 143 = .ok (.new 68, 3) := dq_187 (a := 0) (b := 68) (fd_r fcX11_init (by decide +kernel)) rfl
end
section
theorem dX11_init_146 : decode cX11_init 146 = .ok (.dup, 1) := dq_89 (fd_r fcX11_init (by decide +kernel))
theorem dX11_init_147 : decode cX11_init 147 = .ok (.invokespecial 70, 3) := dq_183 (a := 0) (b := 70) (fd_r fcX11_init (by decide +kernel)) rfl
theorem dX11_init_150 : decode cX11_init 150 = .ok (.putfield 75, 3) := dq_181 (a := 0) (b := 75) (fd_r fcX11_init (by decide +kernel)) rfl
theorem dX11_init_153 : decode cX11_init 153 = .ok (.aload_n 0, 1) := dq_42 (fd_r fcX11_init (by decide +kernel))
theorem dX11_init_154 : decode cX11_init 154 = .ok (.new 78, 3) := dq_187 (a := 0) (b := 78) (fd_r fcX11_init (by decide +kernel)) rfl
theorem dX11_init_157 : decode cX11_init 157 = .ok (.dup, 1) := dq_89 (fd_r fcX11_init (by decide +kernel))
theorem dX11_init_158 : decode cX11_init 158 = .ok (.aload_n 0, 1) := dq_42 (fd_r fcX11_init (by decide +kernel))
theorem dX11_init_159 : decode cX11_init 159 = .ok (.getfield 71, 3) := dq_180 (a := 0) (b := 71) (fd_r fcX11_init (by decide +kernel)) rfl
theorem dX11_init_162 : decode cX11_init 162 = .ok (.invokespecial 80, 3) := dq_183 (a := 0) (b := 80) (fd_r fcX11_init (by decide +kernel)) rfl
theorem dX11_init_165 : decode cX11_init 165 = .ok (.putfield 83, 3) := dq_181 (a := 0) (b := 83) (fd_r fcX11_init (by decide +kernel)) rfl
theorem dX11_init_168 : decode cX11_init 168 = .ok (.aload_n 0, 1) := dq_42 (fd_r fcX11_init (by decide +kernel))
theorem dX11_init_169 : decode cX11_init 169 = .ok (.new 87, 3) := dq_187 (a := 0) (b := 87) (fd_r fcX11_init (by decide +kernel)) rfl
theorem dX11_init_172 : decode cX11_init 172 = .ok (.dup, 1) := dq_89 (fd_r fcX11_init (by decide +kernel))
theorem dX11_init_173 : decode cX11_init 173 = .ok (.aload_n 0, 1) := dq_42 (fd_r fcX11_init (by decide +kernel))
theorem dX11_init_174 : decode cX11_init 174 = .ok (.getfield 71, 3) := dq_180 (a := 0) (b := 71) (fd_r fcX11_init (by decide +kernel)) rfl
theorem dX11_init_177 : decode cX11_init 177 = .ok (.aload_n 0, 1) := dq_42 (fd_r fcX11_init (by decide +kernel))
theorem dX11_init_178 : decode cX11_init 178 = .ok (.getfield 43, 3) := dq_180 (a := 0) (b := 43) (fd_r fcX11_init (by decide +kernel)) rfl
theorem dX11_init_181 : decode cX11_init 181 = .ok (.aload_n 0, 1) := dq_42 (fd_r fcX11_init (by decide +kernel))
theorem dX11_init_182 : decode cX11_init 182 = .ok (.getfield 24, 3) := dq_180 (a := 0) (b := 24) (fd_r fcX11_init (by decide +kernel)) rfl
theorem dX11_init_185 : decode cX11_init 185 = .ok (.invokespecial 89, 3) := dq_183 (a := 0) (b := 89) (fd_r fcX11_init (by decide +kernel)) rfl
theorem dX11_init_188 : decode cX11_init 188 = .ok (.putfield 92, 3) := dq_181 (a := 0) (b := 92) (fd_r fcX11_init (by decide +kernel)) rfl
theorem dX11_init_191 : decode cX11_init 191 = .ok (.aload_n 0, 1) := dq_42 (fd_r fcX11_init (by decide +kernel))
theorem dX11_init_192 : decode cX11_init 192 = .ok (.iconst 1, 1) := dq_4 (fd_r fcX11_init (by decide +kernel))
theorem dX11_init_193 : decode cX11_init 193 = .ok (.putfield 96, 3) := dq_181 (a := 0) (b := 96) (fd_r fcX11_init (by decide +kernel)) rfl
theorem dX11_init_196 : decode cX11_init 196 = .ok (.return_, 1) := dq_177 (fd_r fcX11_init (by decide +kernel))
theorem dX11_feed_0 : decode cX11_feed 0 = .ok (.aload_n 0, 1) := dq_42 (fd_r fcX11_feed (by decide +kernel))
theorem dX11_feed_1 : decode cX11_feed 1 = .ok (.getfield 14, 3) := dq_180 (a := 0) (b := 14) (fd_r fcX11_feed (by decide +kernel)) rfl
theorem dX11_feed_4 : decode cX11_feed 4 = .ok (.getfield 100, 3) := dq_180 (a := 0) (b := 100) (fd_r fcX11_feed (by decide +kernel)) rfl
theorem dX11_feed_7 : decode cX11_feed 7 = .ok (.bipush 20, 2) := dq_16 (a := 20) (fd_r fcX11_feed (by decide +kernel)) rfl
theorem dX11_feed_9 : decode cX11_feed 9 = .ok (.iadd, 1) := dq_96 (fd_r fcX11_feed (by decide +kernel))
theorem dX11_feed_10 : decode cX11_feed 10 = .ok (.sipush 1600, 3) := dq_17 (a := 6) (b := 64) (fd_r fcX11_feed (by decide +kernel)) rfl
theorem dX11_feed_13 : decode cX11_feed 13 = .ok (.if_icmp .le 11, 3) := dq_164 (a := 0) (b := 11) (fd_r fcX11_feed (by decide +kernel)) rfl
theorem dX11_feed_16 : decode cX11_feed 16 = .ok (.aload_n 0, 1) := dq_42 (fd_r fcX11_feed (by decide +kernel))
theorem dX11_feed_17 : decode cX11_feed 17 = .ok (.iconst 0, 1) := dq_3 (fd_r fcX11_feed (by decide +kernel))
theorem dX11_feed_18 : decode cX11_feed 18 = .ok (.invokevirtual 103, 3) := dq_182 (a := 0) (b := 103) (fd_r fcX11_feed (by decide +kernel)) rfl
theorem dX11_feed_21 : decode cX11_feed 21 = .ok (.pop, 1) := dq_87 (fd_r fcX11_feed (by decide +kernel))
theorem dX11_feed_22 : decode cX11_feed 22 = .ok (.iconst (-1), 1) := dq_2 (fd_r fcX11_feed (by decide +kernel))
theorem dX11_feed_23 : decode cX11_feed 23 = .ok (.ireturn, 1) := dq_172 (fd_r fcX11_feed (by decide +kernel))
theorem dX11_feed_24 : decode cX11_feed 24 = .ok (.aload_n 0, 1) := dq_42 (fd_r fcX11_feed (by decide +kernel))
theorem dX11_feed_25 : decode cX11_feed 25 = .ok (.getfield 14, 3) := dq_180 (a := 0) (b := 14) (fd_r fcX11_feed (by decide +kernel)) rfl
theorem dX11_feed_28 : decode cX11_feed 28 = .ok (.iload_n 1, 1) := dq_27 (fd_r fcX11_feed (by decide +kernel))
theorem dX11_feed_29 : decode cX11_feed 29 = .ok (.invokevirtual 107, 3) := dq_182 (a := 0) (b := 107) (fd_r fcX11_feed (by decide +kernel)) rfl
theorem dX11_feed_32 : decode cX11_feed 32 = .ok (.aload_n 0, 1) := dq_42 (fd_r fcX11_feed (by decide +kernel))
theorem dX11_feed_33 : decode cX11_feed 33 = .ok (.getfield 14, 3) := dq_180 (a := 0) (b := 14) (fd_r fcX11_feed (by decide +kernel)) rfl
theorem dX11_feed_36 : decode cX11_feed 36 = .ok (.iload_n 2, 1) := dq_28 (fd_r fcX11_feed (by decide +kernel))
theorem dX11_feed_37 : decode cX11_feed 37 = .ok (.invokevirtual 107, 3) := dq_182 (a := 0) (b := 107) (fd_r fcX11_feed (by decide +kernel)) rfl
theorem dX11_feed_40 : decode cX11_feed 40 = .ok (.aload_n 0, 1) := dq_42 (fd_r fcX11_feed (by decide +kernel))
theorem dX11_feed_41 : decode cX11_feed 41 = .ok (.getfield 14, 3) := dq_180 (a := 0) (b := 14) (fd_r fcX11_feed (by decide +kernel)) rfl
theorem dX11_feed_44 : decode cX11_feed 44 = .ok (.iload_n 3, 1) := dq_29 (fd_r fcX11_feed (by decide +kernel))
theorem dX11_feed_45 : decode cX11_feed 45 = .ok (.invokevirtual 107, 3) := dq_182 (a := 0) (b := 107) (fd_r fcX11_feed (by decide +kernel)) rfl
theorem dX11_feed_48 : decode cX11_feed 48 = .ok (.aload_n 0, 1) := dq_42 (fd_r fcX11_feed (by decide +kernel))
theorem dX11_feed_49 : decode cX11_feed 49 = .ok (.getfield 14, 3) := dq_180 (a := 0) (b := 14) (fd_r fcX11_feed (by decide +kernel)) rfl
theorem dX11_feed_52 : decode cX11_feed 52 = .ok (.iload 4, 2) := dq_21 (a := 4) (fd_r fcX11_feed (by decide +kernel))
theorem dX11_feed_54 : decode cX11_feed 54 = .ok (.invokevirtual 107, 3) := dq_182 (a := 0) (b := 107) (fd_r fcX11_feed (by decide +kernel)) rfl
theorem dX11_feed_57 : decode cX11_feed 57 = .ok (.aload_n 0, 1) := dq_42 (fd_r fcX11_feed (by decide +kernel))
theorem dX11_feed_58 : decode cX11_feed 58 = .ok (.getfield 14, 3) := dq_180 (a := 0) (b := 14) (fd_r fcX11_feed (by decide +kernel)) rfl
theorem dX11_feed_61 : decode cX11_feed 61 = .ok (.iload 5, 2) := dq_21 (a := 5) (fd_r fcX11_feed (by decide +kernel))
theorem dX11_feed_63 : decode cX11_feed 63 = .ok (.invokevirtual 107, 3) := dq_182 (a := 0) (b := 107) (fd_r fcX11_feed (by decide +kernel)) rfl
theorem dX11_feed_66 : decode cX11_feed 66 = .ok (.aload_n 0, 1) := dq_42 (fd_r fcX11_feed (by decide +kernel))
theorem dX11_feed_67 : decode cX11_feed 67 = .ok (.getfield 14, 3) := dq_180 (a := 0) (b := 14) (fd_r fcX11_feed (by decide +kernel)) rfl
theorem dX11_feed_70 : decode cX11_feed 70 = .ok (.getfield 100, 3) := dq_180 (a := 0) (b := 100) (fd_r fcX11_feed (by decide +kernel)) rfl
theorem dX11_feed_73 : decode cX11_feed 73 = .ok (.ireturn, 1) := dq_172 (fd_r fcX11_feed (by decide +kernel))
theorem dX11_end_0 : decode cX11_end 0 = .ok (.iload_n 1, 1) := dq_27 (fd_r fcX11_end (by decide +kernel))
theorem dX11_end_1 : decode cX11_end 1 = .ok (.ifCond .lt 14, 3) := dq_155 (a := 0) (b := 14) (fd_r fcX11_end (by decide +kernel)) rfl
theorem dX11_end_4 : decode cX11_end 4 = .ok (.iload_n 1, 1) := dq_27 (fd_r fcX11_end (by decide +kernel))
theorem dX11_end_5 : decode cX11_end 5 = .ok (.aload_n 0, 1) := dq_42 (fd_r fcX11_end (by decide +kernel))
theorem dX11_end_6 : decode cX11_end 6 = .ok (.getfield 14, 3) := dq_180 (a := 0) (b := 14) (fd_r fcX11_end (by decide +kernel)) rfl
theorem dX11_end_9 : decode cX11_end 9 = .ok (.getfield 100, 3) := dq_180 (a := 0) (b := 100) (fd_r fcX11_end (by decide +kernel)) rfl
theorem dX11_end_12 : decode cX11_end 12 = .ok (.if_icmp .le 9, 3) := dq_164 (a := 0) (b := 9) (fd_r fcX11_end (by decide +kernel)) rfl
theorem dX11_end_15 : decode cX11_end 15 = .ok (.aload_n 0, 1) := dq_42 (fd_r fcX11_end (by decide +kernel))
theorem dX11_end_16 : decode cX11_end 16 = .ok (.iconst 0, 1) := dq_3 (fd_r fcX11_end (by decide +kernel))
theorem dX11_end_17 : decode cX11_end 17 = .ok (.invokevirtual 103, 3) := dq_182 (a := 0) (b := 103) (fd_r fcX11_end (by decide +kernel)) rfl
theorem dX11_end_20 : decode cX11_end 20 = .ok (.ireturn, 1) := dq_172 (fd_r fcX11_end (by decide +kernel))
theorem dX11_end_21 : decode cX11_end 21 = .ok (.aload_n 0, 1) := dq_42 (fd_r fcX11_end (by decide +kernel))
theorem dX11_end_22 : decode cX11_end 22 = .ok (.getfield 14, 3) := dq_180 (a := 0) (b := 14) (fd_r fcX11_end (by decide +kernel)) rfl
theorem dX11_end_25 : decode cX11_end 25 = .ok (.iload_n 1, 1) := dq_27 (fd_r fcX11_end (by decide +kernel))
theorem dX11_end_26 : decode cX11_end 26 = .ok (.putfield 100, 3) := dq_181 (a := 0) (b := 100) (fd_r fcX11_end (by decide +kernel)) rfl
theorem dX11_end_29 : decode cX11_end 29 = .ok (.iconst 1, 1) := dq_4 (fd_r fcX11_end (by decide +kernel))
theorem dX11_end_30 : decode cX11_end 30 = .ok (.ireturn, 1) := dq_172 (fd_r fcX11_end (by decide +kernel))
theorem dX11_match_0 : decode cX11_match 0 = .ok (.aload_n 0, 1) := dq_42 (fd_r fcX11_match (by decide +kernel))
theorem dX11_match_1 : decode cX11_match 1 = .ok (.getfield 83, 3) := dq_180 (a := 0) (b := 83) (fd_r fcX11_match (by decide +kernel)) rfl
theorem dX11_match_4 : decode cX11_match 4 = .ok (.aload_n 0, 1) := dq_42 (fd_r fcX11_match (by decide +kernel))
theorem dX11_match_5 : decode cX11_match 5 = .ok (.getfield 14, 3) := dq_180 (a := 0) (b := 14) (fd_r fcX11_match (by decide +kernel)) rfl
theorem dX11_match_8 : decode cX11_match 8 = .ok (.aload_n 0, 1) := dq_42 (fd_r fcX11_match (by decide +kernel))
theorem dX11_match_9 : decode cX11_match 9 = .ok (.getfield 75, 3) := dq_180 (a := 0) (b := 75) (fd_r fcX11_match (by decide +kernel)) rfl
theorem dX11_match_12 : decode cX11_match 12 = .ok (.invokevirtual 110, 3) := dq_182 (a := 0) (b := 110) (fd_r fcX11_match (by decide +kernel)) rfl
theorem dX11_match_15 : decode cX11_match 15 = .ok (.istore_n 1, 1) := dq_60 (fd_r fcX11_match (by decide +kernel))
theorem dX11_match_16 : decode cX11_match 16 = .ok (.aload_n 0, 1) := dq_42 (fd_r fcX11_match (by decide +kernel))
theorem dX11_match_17 : decode cX11_match 17 = .ok (.getfield 14, 3) := dq_180 (a := 0) (b := 14) (fd_r fcX11_match (by decide +kernel)) rfl
theorem dX11_match_20 : decode cX11_match 20 = .ok (.iconst 0, 1) := dq_3 (fd_r fcX11_match (by decide +kernel))
theorem dX11_match_21 : decode cX11_match 21 = .ok (.putfield 100, 3) := dq_181 (a := 0) (b := 100) (fd_r fcX11_match (by decide +kernel)) rfl
theorem dX11_match_24 : decode cX11_match 24 = .ok (.iload_n 1, 1) := dq_27 (fd_r fcX11_match (by decide +kernel))
theorem dX11_match_25 : decode cX11_match 25 = .ok (.iconst (-1), 1) := dq_2 (fd_r fcX11_match (by decide +kernel))
theorem dX11_match_26 : decode cX11_match 26 = .ok (.if_icmp .ne 11, 3) := dq_160 (a := 0) (b := 11) (fd_r fcX11_match (by decide +kernel)) rfl
theorem dX11_match_29 : decode cX11_match 29 = .ok (.aload_n 0, 1) := dq_42 (fd_r fcX11_match (by decide +kernel))
theorem dX11_match_30 : decode cX11_match 30 = .ok (.iconst 1, 1) := dq_4 (fd_r fcX11_match (by decide +kernel))
theorem dX11_match_31 : decode cX11_match 31 = .ok (.invokevirtual 103, 3) := dq_182 (a := 0) (b := 103) (fd_r fcX11_match (by decide +kernel)) rfl
theorem dX11_match_34 : decode cX11_match 34 = .ok (.pop, 1) := dq_87 (fd_r fcX11_match (by decide +kernel))
theorem dX11_match_35 : decode cX11_match 35 = .ok (.iconst (-1), 1) := dq_2 (fd_r fcX11_match (by decide +kernel))
theorem dX11_match_36 : decode cX11_match 36 = .ok (.ireturn, 1) := dq_172 (fd_r fcX11_match (by decide +kernel))
theorem dX11_match_37 : decode cX11_match 37 = .ok (.aload_n 0, 1) := dq_42 (fd_r fcX11_match (by decide +kernel))
theorem dX11_match_38 : decode cX11_match 38 = .ok (.getfield 71, 3) := dq_180 (a := 0) (b := 71) (fd_r fcX11_match (by decide +kernel)) rfl
theorem dX11_match_41 : decode cX11_match 41 = .ok (.astore_n 2, 1) := dq_77 (fd_r fcX11_match (by decide +kernel))
theorem dX11_match_42 : decode cX11_match 42 = .ok (.aload_n 0, 1) := dq_42 (fd_r fcX11_match (by decide +kernel))
theorem dX11_match_43 : decode cX11_match 43 = .ok (.aload_n 0, 1) := dq_42 (fd_r fcX11_match (by decide +kernel))
theorem dX11_match_44 : decode cX11_match 44 = .ok (.getfield 75, 3) := dq_180 (a := 0) (b := 75) (fd_r fcX11_match (by decide +kernel)) rfl
theorem dX11_match_47 : decode cX11_match 47 = .ok (.putfield 71, 3) := dq_181 (a := 0) (b := 71) (fd_r fcX11_match (by decide +kernel)) rfl
theorem dX11_match_50 : decode cX11_match 50 = .ok (.aload_n 0, 1) := dq_42 (fd_r fcX11_match (by decide +kernel))
theorem dX11_match_51 : decode cX11_match 51 = .ok (.aload_n 2, 1) := dq_44 (fd_r fcX11_match (by decide +kernel))
theorem dX11_match_52 : decode cX11_match 52 = .ok (.putfield 75, 3) := dq_181 (a := 0) (b := 75) (fd_r fcX11_match (by decide +kernel)) rfl
theorem dX11_match_55 : decode cX11_match 55 = .ok (.aload_n 0, 1) := dq_42 (fd_r fcX11_match (by decide +kernel))
theorem dX11_match_56 : decode cX11_match 56 = .ok (.invokevirtual 114, 3) := dq_182 (a := 0) (b := 114) (fd_r fcX11_match (by decide +kernel)) rfl
theorem dX11_match_59 : decode cX11_match 59 = .ok (.iload_n 1, 1) := dq_27 (fd_r fcX11_match (by decide +kernel))
theorem dX11_match_60 : decode cX11_match 60 = .ok (.ireturn, 1) := dq_172 (fd_r fcX11_match (by decide +kernel))
theorem dX11_startMatch_0 : decode cX11_startMatch 0 = .ok (.aload_n 0, 1) := dq_42 (fd_r fcX11_startMatch (by decide +kernel))
theorem dX11_startMatch_1 : decode cX11_startMatch 1 = .ok (.getfield 92, 3) := dq_180 (a := 0) (b := 92) (fd_r fcX11_startMatch (by decide +kernel)) rfl
theorem dX11_startMatch_4 : decode cX11_startMatch 4 = .ok (.aload_n 0, 1) := dq_42 (fd_r fcX11_startMatch (by decide +kernel))
theorem dX11_startMatch_5 : decode cX11_startMatch 5 = .ok (.getfield 71, 3) := dq_180 (a := 0) (b := 71) (fd_r fcX11_startMatch (by decide +kernel)) rfl
theorem dX11_startMatch_8 : decode cX11_startMatch 8 = .ok (.invokevirtual 117, 3) := dq_182 (a := 0) (b := 117) (fd_r fcX11_startMatch (by decide +kernel)) rfl
theorem dX11_startMatch_11 : decode cX11_startMatch 11 = .ok (.aload_n 0, 1) := dq_42 (fd_r fcX11_startMatch (by decide +kernel))
theorem dX11_startMatch_12 : decode cX11_startMatch 12 = .ok (.getfield 33, 3) := dq_180 (a := 0) (b := 33) (fd_r fcX11_startMatch (by decide +kernel)) rfl
theorem dX11_startMatch_15 : decode cX11_startMatch 15 = .ok (.invokevirtual 120, 3) := dq_182 (a := 0) (b := 120) (fd_r fcX11_startMatch (by decide +kernel)) rfl
theorem dX11_startMatch_18 : decode cX11_startMatch 18 = .ok (.aload_n 0, 1) := dq_42 (fd_r fcX11_startMatch (by decide +kernel))
theorem dX11_startMatch_19 : decode cX11_startMatch 19 = .ok (.getfield 33, 3) := dq_180 (a := 0) (b := 33) (fd_r fcX11_startMatch (by decide +kernel)) rfl
theorem dX11_startMatch_22 : decode cX11_startMatch 22 = .ok (.iconst 1, 1) := dq_4 (fd_r fcX11_startMatch (by decide +kernel))
theorem dX11_startMatch_23 : decode cX11_startMatch 23 = .ok (.aload_n 0, 1) := dq_42 (fd_r fcX11_startMatch (by decide +kernel))
theorem dX11_startMatch_24 : decode cX11_startMatch 24 = .ok (.getfield 71, 3) := dq_180 (a := 0) (b := 71) (fd_r fcX11_startMatch (by decide +kernel)) rfl
theorem dX11_startMatch_27 : decode cX11_startMatch 27 = .ok (.getfield 123, 3) := dq_180 (a := 0) (b := 123) (fd_r fcX11_startMatch (by decide +kernel)) rfl
theorem dX11_startMatch_30 : decode cX11_startMatch 30 = .ok (.ishl, 1) := dq_120 (fd_r fcX11_startMatch (by decide +kernel))
theorem dX11_startMatch_31 : decode cX11_startMatch 31 = .ok (.iconst 1, 1) := dq_4 (fd_r fcX11_startMatch (by decide +kernel))
theorem dX11_startMatch_32 : decode cX11_startMatch 32 = .ok (.isub, 1) := dq_100 (fd_r fcX11_startMatch (by decide +kernel))
theorem dX11_startMatch_33 : decode cX11_startMatch 33 = .ok (.iconst 1, 1) := dq_4 (fd_r fcX11_startMatch (by decide +kernel))
theorem dX11_startMatch_34 : decode cX11_startMatch 34 = .ok (.invokevirtual 126, 3) := dq_182 (a := 0) (b := 126) (fd_r fcX11_startMatch (by decide +kernel)) rfl
theorem dX11_startMatch_37 : decode cX11_startMatch 37 = .ok (.iconst 0, 1) := dq_3 (fd_r fcX11_startMatch (by decide +kernel))
theorem dX11_startMatch_38 : decode cX11_startMatch 38 = .ok (.istore_n 1, 1) := dq_60 (fd_r fcX11_startMatch (by decide +kernel))
theorem dX11_startMatch_39 : decode cX11_startMatch 39 = .ok (.iload_n 1, 1) := dq_27 (fd_r fcX11_startMatch (by decide +kernel))
theorem dX11_startMatch_40 : decode cX11_startMatch 40 = .ok (.aload_n 0, 1) := dq_42 (fd_r fcX11_startMatch (by decide +kernel))
theorem dX11_startMatch_41 : decode cX11_startMatch 41 = .ok (.getfield 71, 3) := dq_180 (a := 0) (b := 71) (fd_r fcX11_startMatch (by decide +kernel)) rfl
theorem dX11_startMatch_44 : decode cX11_startMatch 44 = .ok (.getfield 130, 3) := dq_180 (a := 0) (b := 130) (fd_r fcX11_startMatch (by decide +kernel)) rfl
theorem dX11_startMatch_47 : decode cX11_startMatch 47 = .ok (.if_icmp .ge 47, 3) := dq_162 (a := 0) (b := 47) (fd_r fcX11_startMatch (by decide +kernel)) rfl
theorem dX11_startMatch_50 : decode cX11_startMatch 50 = .ok (.aload_n 0, 1) := dq_42 (fd_r fcX11_startMatch (by decide +kernel))
theorem dX11_startMatch_51 : decode cX11_startMatch 51 = .ok (.getfield 37, 3) := dq_180 (a := 0) (b := 37) (fd_r fcX11_startMatch (by decide +kernel)) rfl
theorem dX11_startMatch_54 : decode cX11_startMatch 54 = .ok (.aload_n 0, 1) := dq_42 (fd_r fcX11_startMatch (by decide +kernel))
theorem dX11_startMatch_55 : decode cX11_startMatch 55 = .ok (.getfield 33, 3) := dq_180 (a := 0) (b := 33) (fd_r fcX11_startMatch (by decide +kernel)) rfl
theorem dX11_startMatch_58 : decode cX11_startMatch 58 = .ok (.invokevirtual 133, 3) := dq_182 (a := 0) (b := 133) (fd_r fcX11_startMatch (by decide +kernel)) rfl
theorem dX11_startMatch_61 : decode cX11_startMatch 61 = .ok (.aload_n 0, 1) := dq_42 (fd_r fcX11_startMatch (by decide +kernel))
theorem dX11_startMatch_62 : decode cX11_startMatch 62 = .ok (.getfield 33, 3) := dq_180 (a := 0) (b := 33) (fd_r fcX11_startMatch (by decide +kernel)) rfl
theorem dX11_startMatch_65 : decode cX11_startMatch 65 = .ok (.invokevirtual 120, 3) := dq_182 (a := 0) (b := 120) (fd_r fcX11_startMatch (by decide +kernel)) rfl
theorem dX11_startMatch_68 : decode cX11_startMatch 68 = .ok (.aload_n 0, 1) := dq_42 (fd_r fcX11_startMatch (by decide +kernel))
theorem dX11_startMatch_69 : decode cX11_startMatch 69 = .ok (.getfield 33, 3) := dq_180 (a := 0) (b := 33) (fd_r fcX11_startMatch (by decide +kernel)) rfl
theorem dX11_startMatch_72 : decode cX11_startMatch 72 = .ok (.aload_n 0, 1) := dq_42 (fd_r fcX11_startMatch (by decide +kernel))
theorem dX11_startMatch_73 : decode cX11_startMatch 73 = .ok (.getfield 37, 3) := dq_180 (a := 0) (b := 37) (fd_r fcX11_startMatch (by decide +kernel)) rfl
theorem dX11_startMatch_76 : decode cX11_startMatch 76 = .ok (.aload_n 0, 1) := dq_42 (fd_r fcX11_startMatch (by decide +kernel))
theorem dX11_startMatch_77 : decode cX11_startMatch 77 = .ok (.getfield 92, 3) := dq_180 (a := 0) (b := 92) (fd_r fcX11_startMatch (by decide +kernel)) rfl
theorem dX11_startMatch_80 : decode cX11_startMatch 80 = .ok (.getfield 137, 3) := dq_180 (a := 0) (b := 137) (fd_r fcX11_startMatch (by decide +kernel)) rfl
theorem dX11_startMatch_83 : decode cX11_startMatch 83 = .ok (.iload_n 1, 1) := dq_27 (fd_r fcX11_startMatch (by decide +kernel))
theorem dX11_startMatch_84 : decode cX11_startMatch 84 = .ok (.aaload, 1) := dq_50 (fd_r fcX11_startMatch (by decide +kernel))
theorem dX11_startMatch_85 : decode cX11_startMatch 85 = .ok (.invokevirtual 141, 3) := dq_182 (a := 0) (b := 141) (fd_r fcX11_startMatch (by decide +kernel)) rfl
theorem dX11_startMatch_88 : decode cX11_startMatch 88 = .ok (.iinc 1 1, 3) := dq_132 (a := 1) (b := 1) (fd_r fcX11_startMatch (by decide +kernel)) rfl
theorem dX11_startMatch_91 : decode cX11_startMatch 91 = .ok (.goto (-52), 3) := dq_167 (a := 255) (b := 204) (fd_r fcX11_startMatch (by decide +kernel)) rfl
theorem dX11_startMatch_94 : decode cX11_startMatch 94 = .ok (.aload_n 0, 1) := dq_42 (fd_r fcX11_startMatch (by decide +kernel))
theorem dX11_startMatch_95 : decode cX11_startMatch 95 = .ok (.getfield 43, 3) := dq_180 (a := 0) (b := 43) (fd_r fcX11_startMatch (by decide +kernel)) rfl
theorem dX11_startMatch_98 : decode cX11_startMatch 98 = .ok (.aload_n 0, 1) := dq_42 (fd_r fcX11_startMatch (by decide +kernel))
theorem dX11_startMatch_99 : decode cX11_startMatch 99 = .ok (.getfield 71, 3) := dq_180 (a := 0) (b := 71) (fd_r fcX11_startMatch (by decide +kernel)) rfl
theorem dX11_startMatch_102 : decode cX11_startMatch 102 = .ok (.getfield 123, 3) := dq_180 (a := 0) (b := 123) (fd_r fcX11_startMatch (by decide +kernel)) rfl
theorem dX11_startMatch_105 : decode cX11_startMatch 105 = .ok (.aload_n 0, 1) := dq_42 (fd_r fcX11_startMatch (by decide +kernel))
theorem dX11_startMatch_106 : decode cX11_startMatch 106 = .ok (.getfield 71, 3) := dq_180 (a := 0) (b := 71) (fd_r fcX11_startMatch (by decide +kernel)) rfl
theorem dX11_startMatch_109 : decode cX11_startMatch 109 = .ok (.getfield 145, 3) := dq_180 (a := 0) (b := 145) (fd_r fcX11_startMatch (by decide +kernel)) rfl
theorem dX11_startMatch_112 : decode cX11_startMatch 112 = .ok (.invokevirtual 148, 3) := dq_182 (a := 0) (b := 148) (fd_r fcX11_startMatch (by decide +kernel)) rfl
theorem dX11_startMatch_115 : decode cX11_startMatch 115 = .ok (.aload_n 0, 1) := dq_42 (fd_r fcX11_startMatch (by decide +kernel))
theorem dX11_startMatch_116 : decode cX11_startMatch 116 = .ok (.getfield 53, 3) := dq_180 (a := 0) (b := 53) (fd_r fcX11_startMatch (by decide +kernel)) rfl
theorem dX11_startMatch_119 : decode cX11_startMatch 119 = .ok (.invokevirtual 150, 3) := dq_182 (a := 0) (b := 150) (fd_r fcX11_startMatch (by decide +kernel)) rfl
theorem dX11_startMatch_122 : decode cX11_startMatch 122 = .ok (.aload_n 0, 1) := dq_42 (fd_r fcX11_startMatch (by decide +kernel))
theorem dX11_startMatch_123 : decode cX11_startMatch 123 = .ok (.getfield 60, 3) := dq_180 (a := 0) (b := 60) (fd_r fcX11_startMatch (by decide +kernel)) rfl
theorem dX11_startMatch_126 : decode cX11_startMatch 126 = .ok (.iconst 0, 1) := dq_3 (fd_r fcX11_startMatch (by decide +kernel))
theorem dX11_startMatch_127 : decode cX11_startMatch 127 = .ok (.putfield 153, 3) := dq_181 (a := 0) (b := 153) (fd_r fcX11_startMatch (by decide +kernel)) rfl
theorem dX11_startMatch_130 : decode cX11_startMatch 130 = .ok (.return_, 1) := dq_177 (fd_r fcX11_startMatch (by decide +kernel))
theorem dX11_fault_0 : decode cX11_fault 0 = .ok (.iload_n 1, 1) := dq_27 (fd_r fcX11_fault (by decide +kernel))
theorem dX11_fault_1 : decode cX11_fault 1 = .ok (.ifCond .ne 11, 3) := dq_154 (a := 0) (b := 11) (fd_r fcX11_fault (by decide +kernel)) rfl
theorem dX11_fault_4 : decode cX11_fault 4 = .ok (.aload_n 0, 1) := dq_42 (fd_r fcX11_fault (by decide +kernel))
theorem dX11_fault_5 : decode cX11_fault 5 = .ok (.getfield 83, 3) := dq_180 (a := 0) (b := 83) (fd_r fcX11_fault (by decide +kernel)) rfl
theorem dX11_fault_8 : decode cX11_fault 8 = .ok (.getfield 156, 3) := dq_180 (a := 0) (b := 156) (fd_r fcX11_fault (by decide +kernel)) rfl
theorem dX11_fault_11 : decode cX11_fault 11 = .ok (.ireturn, 1) := dq_172 (fd_r fcX11_fault (by decide +kernel))
theorem dX11_fault_12 : decode cX11_fault 12 = .ok (.iload_n 1, 1) := dq_27 (fd_r fcX11_fault (by decide +kernel))
theorem dX11_fault_13 : decode cX11_fault 13 = .ok (.iconst 1, 1) := dq_4 (fd_r fcX11_fault (by decide +kernel))
theorem dX11_fault_14 : decode cX11_fault 14 = .ok (.if_icmp .ne 13, 3) := dq_160 (a := 0) (b := 13) (fd_r fcX11_fault (by decide +kernel)) rfl
theorem dX11_fault_17 : decode cX11_fault 17 = .ok (.aload_n 0, 1) := dq_42 (fd_r fcX11_fault (by decide +kernel))
theorem dX11_fault_18 : decode cX11_fault 18 = .ok (.getfield 83, 3) := dq_180 (a := 0) (b := 83) (fd_r fcX11_fault (by decide +kernel)) rfl
theorem dX11_fault_21 : decode cX11_fault 21 = .ok (.getfield 159, 3) := dq_180 (a := 0) (b := 159) (fd_r fcX11_fault (by decide +kernel)) rfl
theorem dX11_fault_24 : decode cX11_fault 24 = .ok (.goto 4, 3) := dq_167 (a := 0) (b := 4) (fd_r fcX11_fault (by decide +kernel)) rfl
theorem dX11_fault_27 : decode cX11_fault 27 = .ok (.iconst (-1), 1) := dq_2 (fd_r fcX11_fault (by decide +kernel))
theorem dX11_fault_28 : decode cX11_fault 28 = .ok (.ireturn, 1) := dq_172 (fd_r fcX11_fault (by decide +kernel))
theorem dX11_has_0 : decode cX11_has 0 = .ok (.iload_n 1, 1) := dq_27 (fd_r fcX11_has (by decide +kernel))
theorem dX11_has_1 : decode cX11_has 1 = .ok (.tableswitch 150 0 10 #[59, 70, 81, 89, 97, 105, 113, 121, 129, 137, 145], 59) := by decide +kernel
theorem dX11_has_60 : decode cX11_has 60 = .ok (.aload_n 0, 1) := dq_42 (fd_r fcX11_has (by decide +kernel))
theorem dX11_has_61 : decode cX11_has 61 = .ok (.getfield 71, 3) := dq_180 (a := 0) (b := 71) (fd_r fcX11_has (by decide +kernel)) rfl
theorem dX11_has_64 : decode cX11_has 64 = .ok (.getfield 162, 3) := dq_180 (a := 0) (b := 162) (fd_r fcX11_has (by decide +kernel)) rfl
theorem dX11_has_67 : decode cX11_has 67 = .ok (.getfield 166, 3) := dq_180 (a := 0) (b := 166) (fd_r fcX11_has (by decide +kernel)) rfl
theorem dX11_has_70 : decode cX11_has 70 = .ok (.ireturn, 1) := dq_172 (fd_r fcX11_has (by decide +kernel))
theorem dX11_has_71 : decode cX11_has 71 = .ok (.aload_n 0, 1) := dq_42 (fd_r fcX11_has (by decide +kernel))
theorem dX11_has_72 : decode cX11_has 72 = .ok (.getfield 71, 3) := dq_180 (a := 0) (b := 71) (fd_r fcX11_has (by decide +kernel)) rfl
theorem dX11_has_75 : decode cX11_has 75 = .ok (.getfield 162, 3) := dq_180 (a := 0) (b := 162) (fd_r fcX11_has (by decide +kernel)) rfl
theorem dX11_has_78 : decode cX11_has 78 = .ok (.getfield 170, 3) := dq_180 (a := 0) (b := 170) (fd_r fcX11_has (by decide +kernel)) rfl
theorem dX11_has_81 : decode cX11_has 81 = .ok (.ireturn, 1) := dq_172 (fd_r fcX11_has (by decide +kernel))
theorem dX11_has_82 : decode cX11_has 82 = .ok (.aload_n 0, 1) := dq_42 (fd_r fcX11_has (by decide +kernel))
theorem dX11_has_83 : decode cX11_has 83 = .ok (.getfield 71, 3) := dq_180 (a := 0) (b := 71) (fd_r fcX11_has (by decide +kernel)) rfl
theorem dX11_has_86 : decode cX11_has 86 = .ok (.getfield 130, 3) := dq_180 (a := 0) (b := 130) (fd_r fcX11_has (by decide +kernel)) rfl
theorem dX11_has_89 : decode cX11_has 89 = .ok (.ireturn, 1) := dq_172 (fd_r fcX11_has (by decide +kernel))
theorem dX11_has_90 : decode cX11_has 90 = .ok (.aload_n 0, 1) := dq_42 (fd_r fcX11_has (by decide +kernel))
theorem dX11_has_91 : decode cX11_has 91 = .ok (.getfield 71, 3) := dq_180 (a := 0) (b := 71) (fd_r fcX11_has (by decide +kernel)) rfl
theorem dX11_has_94 : decode cX11_has 94 = .ok (.getfield 173, 3) := dq_180 (a := 0) (b := 173) (fd_r fcX11_has (by decide +kernel)) rfl
theorem dX11_has_97 : decode cX11_has 97 = .ok (.ireturn, 1) := dq_172 (fd_r fcX11_has (by decide +kernel))
theorem dX11_has_98 : decode cX11_has 98 = .ok (.aload_n 0, 1) := dq_42 (fd_r fcX11_has (by decide +kernel))
theorem dX11_has_99 : decode cX11_has 99 = .ok (.getfield 43, 3) := dq_180 (a := 0) (b := 43) (fd_r fcX11_has (by decide +kernel)) rfl
theorem dX11_has_102 : decode cX11_has 102 = .ok (.getfield 176, 3) := dq_180 (a := 0) (b := 176) (fd_r fcX11_has (by decide +kernel)) rfl
theorem dX11_has_105 : decode cX11_has 105 = .ok (.ireturn, 1) := dq_172 (fd_r fcX11_has (by decide +kernel))
theorem dX11_has_106 : decode cX11_has 106 = .ok (.aload_n 0, 1) := dq_42 (fd_r fcX11_has (by decide +kernel))
theorem dX11_has_107 : decode cX11_has 107 = .ok (.getfield 43, 3) := dq_180 (a := 0) (b := 43) (fd_r fcX11_has (by decide +kernel)) rfl
theorem dX11_has_110 : decode cX11_has 110 = .ok (.getfield 177, 3) := dq_180 (a := 0) (b := 177) (fd_r fcX11_has (by decide +kernel)) rfl
theorem dX11_has_113 : decode cX11_has 113 = .ok (.ireturn, 1) := dq_172 (fd_r fcX11_has (by decide +kernel))
theorem dX11_has_114 : decode cX11_has 114 = .ok (.aload_n 0, 1) := dq_42 (fd_r fcX11_has (by decide +kernel))
theorem dX11_has_115 : decode cX11_has 115 = .ok (.getfield 43, 3) := dq_180 (a := 0) (b := 43) (fd_r fcX11_has (by decide +kernel)) rfl
theorem dX11_has_118 : decode cX11_has 118 = .ok (.getfield 180, 3) := dq_180 (a := 0) (b := 180) (fd_r fcX11_has (by decide +kernel)) rfl
theorem dX11_has_121 : decode cX11_has 121 = .ok (.ireturn, 1) := dq_172 (fd_r fcX11_has (by decide +kernel))
theorem dX11_has_122 : decode cX11_has 122 = .ok (.aload_n 0, 1) := dq_42 (fd_r fcX11_has (by decide +kernel))
theorem dX11_has_123 : decode cX11_has 123 = .ok (.getfield 53, 3) := dq_180 (a := 0) (b := 53) (fd_r fcX11_has (by decide +kernel)) rfl
theorem dX11_has_126 : decode cX11_has 126 = .ok (.invokevirtual 181, 3) := dq_182 (a := 0) (b := 181) (fd_r fcX11_has (by decide +kernel)) rfl
theorem dX11_has_129 : decode cX11_has 129 = .ok (.ireturn, 1) := dq_172 (fd_r fcX11_has (by decide +kernel))
theorem dX11_has_130 : decode cX11_has 130 = .ok (.aload_n 0, 1) := dq_42 (fd_r fcX11_has (by decide +kernel))
theorem dX11_has_131 : decode cX11_has 131 = .ok (.getfield 60, 3) := dq_180 (a := 0) (b := 60) (fd_r fcX11_has (by decide +kernel)) rfl
theorem dX11_has_134 : decode cX11_has 134 = .ok (.getfield 153, 3) := dq_180 (a := 0) (b := 153) (fd_r fcX11_has (by decide +kernel)) rfl
theorem dX11_has_137 : decode cX11_has 137 = .ok (.ireturn, 1) := dq_172 (fd_r fcX11_has (by decide +kernel))
theorem dX11_has_138 : decode cX11_has 138 = .ok (.aload_n 0, 1) := dq_42 (fd_r fcX11_has (by decide +kernel))
theorem dX11_has_139 : decode cX11_has 139 = .ok (.getfield 53, 3) := dq_180 (a := 0) (b := 53) (fd_r fcX11_has (by decide +kernel)) rfl
theorem dX11_has_142 : decode cX11_has 142 = .ok (.getfield 185, 3) := dq_180 (a := 0) (b := 185) (fd_r fcX11_has (by decide +kernel)) rfl
theorem dX11_has_145 : decode cX11_has 145 = .ok (.ireturn, 1) := dq_172 (fd_r fcX11_has (by decide +kernel))
theorem dX11_has_146 : decode cX11_has 146 = .ok (.aload_n 0, 1) := dq_42 (fd_r fcX11_has (by decide +kernel))
theorem dX11_has_147 : decode cX11_has 147 = .ok (.getfield 96, 3) := dq_180 (a := 0) (b := 96) (fd_r fcX11_has (by decide +kernel)) rfl
theorem dX11_has_150 : decode cX11_has 150 = .ok (.ireturn, 1) := dq_172 (fd_r fcX11_has (by decide +kernel))
theorem dX11_has_151 : decode cX11_has 151 = .ok (.iconst (-1), 1) := dq_2 (fd_r fcX11_has (by decide +kernel))
theorem dX11_has_152 : decode cX11_has 152 = .ok (.ireturn, 1) := dq_172 (fd_r fcX11_has (by decide +kernel))
theorem dX11_letter_0 : decode cX11_letter 0 = .ok (.aload_n 0, 1) := dq_42 (fd_r fcX11_letter (by decide +kernel))
theorem dX11_letter_1 : decode cX11_letter 1 = .ok (.getfield 71, 3) := dq_180 (a := 0) (b := 71) (fd_r fcX11_letter (by decide +kernel)) rfl
theorem dX11_letter_4 : decode cX11_letter 4 = .ok (.getfield 162, 3) := dq_180 (a := 0) (b := 162) (fd_r fcX11_letter (by decide +kernel)) rfl
theorem dX11_letter_7 : decode cX11_letter 7 = .ok (.astore 4, 2) := dq_58 (a := 4) (fd_r fcX11_letter (by decide +kernel))
theorem dX11_letter_9 : decode cX11_letter 9 = .ok (.iload_n 3, 1) := dq_29 (fd_r fcX11_letter (by decide +kernel))
theorem dX11_letter_10 : decode cX11_letter 10 = .ok (.ifCond .lt 13, 3) := dq_155 (a := 0) (b := 13) (fd_r fcX11_letter (by decide +kernel)) rfl
theorem dX11_letter_13 : decode cX11_letter 13 = .ok (.iload_n 3, 1) := dq_29 (fd_r fcX11_letter (by decide +kernel))
theorem dX11_letter_14 : decode cX11_letter 14 = .ok (.bipush 6, 2) := dq_16 (a := 6) (fd_r fcX11_letter (by decide +kernel)) rfl
theorem dX11_letter_16 : decode cX11_letter 16 = .ok (.if_icmp .ge 7, 3) := dq_162 (a := 0) (b := 7) (fd_r fcX11_letter (by decide +kernel)) rfl
theorem dX11_letter_19 : decode cX11_letter 19 = .ok (.iload_n 2, 1) := dq_28 (fd_r fcX11_letter (by decide +kernel))
theorem dX11_letter_20 : decode cX11_letter 20 = .ok (.ifCond .ge 5, 3) := dq_156 (a := 0) (b := 5) (fd_r fcX11_letter (by decide +kernel)) rfl
theorem dX11_letter_23 : decode cX11_letter 23 = .ok (.iconst (-1), 1) := dq_2 (fd_r fcX11_letter (by decide +kernel))
theorem dX11_letter_24 : decode cX11_letter 24 = .ok (.ireturn, 1) := dq_172 (fd_r fcX11_letter (by decide +kernel))
theorem dX11_letter_25 : decode cX11_letter 25 = .ok (.iload_n 1, 1) := dq_27 (fd_r fcX11_letter (by decide +kernel))
theorem dX11_letter_26 : decode cX11_letter 26 = .ok (.ifCond .ne 24, 3) := dq_154 (a := 0) (b := 24) (fd_r fcX11_letter (by decide +kernel)) rfl
theorem dX11_letter_29 : decode cX11_letter 29 = .ok (.aload 4, 2) := dq_25 (a := 4) (fd_r fcX11_letter (by decide +kernel))
theorem dX11_letter_31 : decode cX11_letter 31 = .ok (.iload_n 2, 1) := dq_28 (fd_r fcX11_letter (by decide +kernel))
theorem dX11_letter_32 : decode cX11_letter 32 = .ok (.invokevirtual 188, 3) := dq_182 (a := 0) (b := 188) (fd_r fcX11_letter (by decide +kernel)) rfl
theorem dX11_letter_35 : decode cX11_letter 35 = .ok (.ifCond .eq 15, 3) := dq_153 (a := 0) (b := 15) (fd_r fcX11_letter (by decide +kernel)) rfl
theorem dX11_letter_38 : decode cX11_letter 38 = .ok (.aload 4, 2) := dq_25 (a := 4) (fd_r fcX11_letter (by decide +kernel))
theorem dX11_letter_40 : decode cX11_letter 40 = .ok (.getfield 191, 3) := dq_180 (a := 0) (b := 191) (fd_r fcX11_letter (by decide +kernel)) rfl
theorem dX11_letter_43 : decode cX11_letter 43 = .ok (.iload_n 2, 1) := dq_28 (fd_r fcX11_letter (by decide +kernel))
theorem dX11_letter_44 : decode cX11_letter 44 = .ok (.iaload, 1) := dq_46 (fd_r fcX11_letter (by decide +kernel))
theorem dX11_letter_45 : decode cX11_letter 45 = .ok (.iload_n 3, 1) := dq_29 (fd_r fcX11_letter (by decide +kernel))
theorem dX11_letter_46 : decode cX11_letter 46 = .ok (.invokestatic 194, 3) := dq_184 (a := 0) (b := 194) (fd_r fcX11_letter (by decide +kernel)) rfl
theorem dX11_letter_49 : decode cX11_letter 49 = .ok (.ireturn, 1) := dq_172 (fd_r fcX11_letter (by decide +kernel))
theorem dX11_letter_50 : decode cX11_letter 50 = .ok (.iload_n 1, 1) := dq_27 (fd_r fcX11_letter (by decide +kernel))
theorem dX11_letter_51 : decode cX11_letter 51 = .ok (.iconst 1, 1) := dq_4 (fd_r fcX11_letter (by decide +kernel))
theorem dX11_letter_52 : decode cX11_letter 52 = .ok (.if_icmp .ne 24, 3) := dq_160 (a := 0) (b := 24) (fd_r fcX11_letter (by decide +kernel)) rfl
theorem dX11_letter_55 : decode cX11_letter 55 = .ok (.aload 4, 2) := dq_25 (a := 4) (fd_r fcX11_letter (by decide +kernel))
theorem dX11_letter_57 : decode cX11_letter 57 = .ok (.iload_n 2, 1) := dq_28 (fd_r fcX11_letter (by decide +kernel))
theorem dX11_letter_58 : decode cX11_letter 58 = .ok (.invokevirtual 198, 3) := dq_182 (a := 0) (b := 198) (fd_r fcX11_letter (by decide +kernel)) rfl
theorem dX11_letter_61 : decode cX11_letter 61 = .ok (.ifCond .eq 15, 3) := dq_153 (a := 0) (b := 15) (fd_r fcX11_letter (by decide +kernel)) rfl
theorem dX11_letter_64 : decode cX11_letter 64 = .ok (.aload 4, 2) := dq_25 (a := 4) (fd_r fcX11_letter (by decide +kernel))
theorem dX11_letter_66 : decode cX11_letter 66 = .ok (.getfield 201, 3) := dq_180 (a := 0) (b := 201) (fd_r fcX11_letter (by decide +kernel)) rfl
theorem dX11_letter_69 : decode cX11_letter 69 = .ok (.iload_n 2, 1) := dq_28 (fd_r fcX11_letter (by decide +kernel))
theorem dX11_letter_70 : decode cX11_letter 70 = .ok (.iaload, 1) := dq_46 (fd_r fcX11_letter (by decide +kernel))
theorem dX11_letter_71 : decode cX11_letter 71 = .ok (.iload_n 3, 1) := dq_29 (fd_r fcX11_letter (by decide +kernel))
theorem dX11_letter_72 : decode cX11_letter 72 = .ok (.invokestatic 194, 3) := dq_184 (a := 0) (b := 194) (fd_r fcX11_letter (by decide +kernel)) rfl
theorem dX11_letter_75 : decode cX11_letter 75 = .ok (.ireturn, 1) := dq_172 (fd_r fcX11_letter (by decide +kernel))
theorem dX11_letter_76 : decode cX11_letter 76 = .ok (.iconst (-1), 1) := dq_2 (fd_r fcX11_letter (by decide +kernel))
theorem dX11_letter_77 : decode cX11_letter 77 = .ok (.ireturn, 1) := dq_172 (fd_r fcX11_letter (by decide +kernel))
theorem dX11_values_0 : decode cX11_values 0 = .ok (.aload_n 0, 1) := dq_42 (fd_r fcX11_values (by decide +kernel))
theorem dX11_values_1 : decode cX11_values 1 = .ok (.invokevirtual 204, 3) := dq_182 (a := 0) (b := 204) (fd_r fcX11_values (by decide +kernel)) rfl
theorem dX11_values_4 : decode cX11_values 4 = .ok (.ifCond .eq 22, 3) := dq_153 (a := 0) (b := 22) (fd_r fcX11_values (by decide +kernel)) rfl
theorem dX11_values_7 : decode cX11_values 7 = .ok (.iload_n 1, 1) := dq_27 (fd_r fcX11_values (by decide +kernel))
theorem dX11_values_8 : decode cX11_values 8 = .ok (.iconst (-1), 1) := dq_2 (fd_r fcX11_values (by decide +kernel))
theorem dX11_values_9 : decode cX11_values 9 = .ok (.if_icmp .eq 19, 3) := dq_159 (a := 0) (b := 19) (fd_r fcX11_values (by decide +kernel)) rfl
theorem dX11_values_12 : decode cX11_values 12 = .ok (.aload_n 0, 1) := dq_42 (fd_r fcX11_values (by decide +kernel))
theorem dX11_values_13 : decode cX11_values 13 = .ok (.getfield 71, 3) := dq_180 (a := 0) (b := 71) (fd_r fcX11_values (by decide +kernel)) rfl
theorem dX11_values_16 : decode cX11_values 16 = .ok (.getfield 162, 3) := dq_180 (a := 0) (b := 162) (fd_r fcX11_values (by decide +kernel)) rfl
theorem dX11_values_19 : decode cX11_values 19 = .ok (.iload_n 1, 1) := dq_27 (fd_r fcX11_values (by decide +kernel))
theorem dX11_values_20 : decode cX11_values 20 = .ok (.invokevirtual 188, 3) := dq_182 (a := 0) (b := 188) (fd_r fcX11_values (by decide +kernel)) rfl
theorem dX11_values_23 : decode cX11_values 23 = .ok (.ifCond .ne 5, 3) := dq_154 (a := 0) (b := 5) (fd_r fcX11_values (by decide +kernel)) rfl
theorem dX11_values_26 : decode cX11_values 26 = .ok (.iconst (-1), 1) := dq_2 (fd_r fcX11_values (by decide +kernel))
theorem dX11_values_27 : decode cX11_values 27 = .ok (.ireturn, 1) := dq_172 (fd_r fcX11_values (by decide +kernel))
theorem dX11_values_28 : decode cX11_values 28 = .ok (.aload_n 0, 1) := dq_42 (fd_r fcX11_values (by decide +kernel))
theorem dX11_values_29 : decode cX11_values 29 = .ok (.getfield 71, 3) := dq_180 (a := 0) (b := 71) (fd_r fcX11_values (by decide +kernel)) rfl
theorem dX11_values_32 : decode cX11_values 32 = .ok (.getfield 162, 3) := dq_180 (a := 0) (b := 162) (fd_r fcX11_values (by decide +kernel)) rfl
theorem dX11_values_35 : decode cX11_values 35 = .ok (.iload_n 1, 1) := dq_27 (fd_r fcX11_values (by decide +kernel))
theorem dX11_values_36 : decode cX11_values 36 = .ok (.invokevirtual 208, 3) := dq_182 (a := 0) (b := 208) (fd_r fcX11_values (by decide +kernel)) rfl
theorem dX11_values_39 : decode cX11_values 39 = .ok (.ireturn, 1) := dq_172 (fd_r fcX11_values (by decide +kernel))
theorem dX11_arm_0 : decode cX11_arm 0 = .ok (.aload_n 0, 1) := dq_42 (fd_r fcX11_arm (by decide +kernel))
theorem dX11_arm_1 : decode cX11_arm 1 = .ok (.getfield 43, 3) := dq_180 (a := 0) (b := 43) (fd_r fcX11_arm (by decide +kernel)) rfl
theorem dX11_arm_4 : decode cX11_arm 4 = .ok (.iload_n 1, 1) := dq_27 (fd_r fcX11_arm (by decide +kernel))
theorem dX11_arm_5 : decode cX11_arm 5 = .ok (.invokevirtual 212, 3) := dq_182 (a := 0) (b := 212) (fd_r fcX11_arm (by decide +kernel)) rfl
theorem dX11_arm_8 : decode cX11_arm 8 = .ok (.istore_n 3, 1) := dq_62 (fd_r fcX11_arm (by decide +kernel))
theorem dX11_arm_9 : decode cX11_arm 9 = .ok (.iload_n 3, 1) := dq_29 (fd_r fcX11_arm (by decide +kernel))
theorem dX11_arm_10 : decode cX11_arm 10 = .ok (.iconst (-1), 1) := dq_2 (fd_r fcX11_arm (by decide +kernel))
theorem dX11_arm_11 : decode cX11_arm 11 = .ok (.if_icmp .ne 5, 3) := dq_160 (a := 0) (b := 5) (fd_r fcX11_arm (by decide +kernel)) rfl
theorem dX11_arm_14 : decode cX11_arm 14 = .ok (.iconst (-1), 1) := dq_2 (fd_r fcX11_arm (by decide +kernel))
theorem dX11_arm_15 : decode cX11_arm 15 = .ok (.ireturn, 1) := dq_172 (fd_r fcX11_arm (by decide +kernel))
theorem dX11_arm_16 : decode cX11_arm 16 = .ok (.iload_n 2, 1) := dq_28 (fd_r fcX11_arm (by decide +kernel))
theorem dX11_arm_17 : decode cX11_arm 17 = .ok (.tableswitch 72 0 4 #[35, 37, 46, 60, 66], 35) := by decide +kernel
theorem dX11_arm_52 : decode cX11_arm 52 = .ok (.iload_n 3, 1) := dq_29 (fd_r fcX11_arm (by decide +kernel))
theorem dX11_arm_53 : decode cX11_arm 53 = .ok (.ireturn, 1) := dq_172 (fd_r fcX11_arm (by decide +kernel))
theorem dX11_arm_54 : decode cX11_arm 54 = .ok (.aload_n 0, 1) := dq_42 (fd_r fcX11_arm (by decide +kernel))
theorem dX11_arm_55 : decode cX11_arm 55 = .ok (.getfield 71, 3) := dq_180 (a := 0) (b := 71) (fd_r fcX11_arm (by decide +kernel)) rfl
theorem dX11_arm_58 : decode cX11_arm 58 = .ok (.iload_n 3, 1) := dq_29 (fd_r fcX11_arm (by decide +kernel))
theorem dX11_arm_59 : decode cX11_arm 59 = .ok (.invokevirtual 215, 3) := dq_182 (a := 0) (b := 215) (fd_r fcX11_arm (by decide +kernel)) rfl
theorem dX11_arm_62 : decode cX11_arm 62 = .ok (.ireturn, 1) := dq_172 (fd_r fcX11_arm (by decide +kernel))
theorem dX11_arm_63 : decode cX11_arm 63 = .ok (.aload_n 0, 1) := dq_42 (fd_r fcX11_arm (by decide +kernel))
theorem dX11_arm_64 : decode cX11_arm 64 = .ok (.iload_n 1, 1) := dq_27 (fd_r fcX11_arm (by decide +kernel))
theorem dX11_arm_65 : decode cX11_arm 65 = .ok (.invokevirtual 218, 3) := dq_182 (a := 0) (b := 218) (fd_r fcX11_arm (by decide +kernel)) rfl
theorem dX11_arm_68 : decode cX11_arm 68 = .ok (.ifCond .eq 7, 3) := dq_153 (a := 0) (b := 7) (fd_r fcX11_arm (by decide +kernel)) rfl
theorem dX11_arm_71 : decode cX11_arm 71 = .ok (.iconst 1, 1) := dq_4 (fd_r fcX11_arm (by decide +kernel))
theorem dX11_arm_72 : decode cX11_arm 72 = .ok (.goto 4, 3) := dq_167 (a := 0) (b := 4) (fd_r fcX11_arm (by decide +kernel)) rfl
theorem dX11_arm_75 : decode cX11_arm 75 = .ok (.iconst 0, 1) := dq_3 (fd_r fcX11_arm (by decide +kernel))
theorem dX11_arm_76 : decode cX11_arm 76 = .ok (.ireturn, 1) := dq_172 (fd_r fcX11_arm (by decide +kernel))
theorem dX11_arm_77 : decode cX11_arm 77 = .ok (.aload_n 0, 1) := dq_42 (fd_r fcX11_arm (by decide +kernel))
theorem dX11_arm_78 : decode cX11_arm 78 = .ok (.iload_n 3, 1) := dq_29 (fd_r fcX11_arm (by decide +kernel))
theorem dX11_arm_79 : decode cX11_arm 79 = .ok (.invokevirtual 221, 3) := dq_182 (a := 0) (b := 221) (fd_r fcX11_arm (by decide +kernel)) rfl
theorem dX11_arm_82 : decode cX11_arm 82 = .ok (.ireturn, 1) := dq_172 (fd_r fcX11_arm (by decide +kernel))
theorem dX11_arm_83 : decode cX11_arm 83 = .ok (.aload_n 0, 1) := dq_42 (fd_r fcX11_arm (by decide +kernel))
theorem dX11_arm_84 : decode cX11_arm 84 = .ok (.iload_n 1, 1) := dq_27 (fd_r fcX11_arm (by decide +kernel))
theorem dX11_arm_85 : decode cX11_arm 85 = .ok (.invokevirtual 224, 3) := dq_182 (a := 0) (b := 224) (fd_r fcX11_arm (by decide +kernel)) rfl
theorem dX11_arm_88 : decode cX11_arm 88 = .ok (.ireturn, 1) := dq_172 (fd_r fcX11_arm (by decide +kernel))
theorem dX11_arm_89 : decode cX11_arm 89 = .ok (.iconst (-1), 1) := dq_2 (fd_r fcX11_arm (by decide +kernel))
theorem dX11_arm_90 : decode cX11_arm 90 = .ok (.ireturn, 1) := dq_172 (fd_r fcX11_arm (by decide +kernel))
theorem dX11_isUseful_0 : decode cX11_isUseful 0 = .ok (.aload_n 0, 1) := dq_42 (fd_r fcX11_isUseful (by decide +kernel))
theorem dX11_isUseful_1 : decode cX11_isUseful 1 = .ok (.getfield 43, 3) := dq_180 (a := 0) (b := 43) (fd_r fcX11_isUseful (by decide +kernel)) rfl
theorem dX11_isUseful_4 : decode cX11_isUseful 4 = .ok (.iload_n 1, 1) := dq_27 (fd_r fcX11_isUseful (by decide +kernel))
theorem dX11_isUseful_5 : decode cX11_isUseful 5 = .ok (.invokevirtual 212, 3) := dq_182 (a := 0) (b := 212) (fd_r fcX11_isUseful (by decide +kernel)) rfl
theorem dX11_isUseful_8 : decode cX11_isUseful 8 = .ok (.istore_n 2, 1) := dq_61 (fd_r fcX11_isUseful (by decide +kernel))
theorem dX11_isUseful_9 : decode cX11_isUseful 9 = .ok (.aload_n 0, 1) := dq_42 (fd_r fcX11_isUseful (by decide +kernel))
theorem dX11_isUseful_10 : decode cX11_isUseful 10 = .ok (.getfield 43, 3) := dq_180 (a := 0) (b := 43) (fd_r fcX11_isUseful (by decide +kernel)) rfl
theorem dX11_isUseful_13 : decode cX11_isUseful 13 = .ok (.aload_n 0, 1) := dq_42 (fd_r fcX11_isUseful (by decide +kernel))
theorem dX11_isUseful_14 : decode cX11_isUseful 14 = .ok (.getfield 71, 3) := dq_180 (a := 0) (b := 71) (fd_r fcX11_isUseful (by decide +kernel)) rfl
theorem dX11_isUseful_17 : decode cX11_isUseful 17 = .ok (.iload_n 1, 1) := dq_27 (fd_r fcX11_isUseful (by decide +kernel))
theorem dX11_isUseful_18 : decode cX11_isUseful 18 = .ok (.invokevirtual 227, 3) := dq_182 (a := 0) (b := 227) (fd_r fcX11_isUseful (by decide +kernel)) rfl
theorem dX11_isUseful_21 : decode cX11_isUseful 21 = .ok (.istore_n 3, 1) := dq_62 (fd_r fcX11_isUseful (by decide +kernel))
theorem dX11_isUseful_22 : decode cX11_isUseful 22 = .ok (.iconst 0, 1) := dq_3 (fd_r fcX11_isUseful (by decide +kernel))
theorem dX11_isUseful_23 : decode cX11_isUseful 23 = .ok (.istore 4, 2) := dq_54 (a := 4) (fd_r fcX11_isUseful (by decide +kernel))
theorem dX11_isUseful_25 : decode cX11_isUseful 25 = .ok (.iload 4, 2) := dq_21 (a := 4) (fd_r fcX11_isUseful (by decide +kernel))
theorem dX11_isUseful_27 : decode cX11_isUseful 27 = .ok (.aload_n 0, 1) := dq_42 (fd_r fcX11_isUseful (by decide +kernel))
theorem dX11_isUseful_28 : decode cX11_isUseful 28 = .ok (.getfield 33, 3) := dq_180 (a := 0) (b := 33) (fd_r fcX11_isUseful (by decide +kernel)) rfl
theorem dX11_isUseful_31 : decode cX11_isUseful 31 = .ok (.getfield 231, 3) := dq_180 (a := 0) (b := 231) (fd_r fcX11_isUseful (by decide +kernel)) rfl
theorem dX11_isUseful_34 : decode cX11_isUseful 34 = .ok (.if_icmp .ge 39, 3) := dq_162 (a := 0) (b := 39) (fd_r fcX11_isUseful (by decide +kernel)) rfl
theorem dX11_isUseful_37 : decode cX11_isUseful 37 = .ok (.aload_n 0, 1) := dq_42 (fd_r fcX11_isUseful (by decide +kernel))
theorem dX11_isUseful_38 : decode cX11_isUseful 38 = .ok (.getfield 33, 3) := dq_180 (a := 0) (b := 33) (fd_r fcX11_isUseful (by decide +kernel)) rfl
theorem dX11_isUseful_41 : decode cX11_isUseful 41 = .ok (.getfield 232, 3) := dq_180 (a := 0) (b := 232) (fd_r fcX11_isUseful (by decide +kernel)) rfl
theorem dX11_isUseful_44 : decode cX11_isUseful 44 = .ok (.iload 4, 2) := dq_21 (a := 4) (fd_r fcX11_isUseful (by decide +kernel))
theorem dX11_isUseful_46 : decode cX11_isUseful 46 = .ok (.iaload, 1) := dq_46 (fd_r fcX11_isUseful (by decide +kernel))
theorem dX11_isUseful_47 : decode cX11_isUseful 47 = .ok (.istore 5, 2) := dq_54 (a := 5) (fd_r fcX11_isUseful (by decide +kernel))
theorem dX11_isUseful_49 : decode cX11_isUseful 49 = .ok (.iload 5, 2) := dq_21 (a := 5) (fd_r fcX11_isUseful (by decide +kernel))
theorem dX11_isUseful_51 : decode cX11_isUseful 51 = .ok (.iload_n 2, 1) := dq_28 (fd_r fcX11_isUseful (by decide +kernel))
theorem dX11_isUseful_52 : decode cX11_isUseful 52 = .ok (.invokestatic 234, 3) := dq_184 (a := 0) (b := 234) (fd_r fcX11_isUseful (by decide +kernel)) rfl
theorem dX11_isUseful_55 : decode cX11_isUseful 55 = .ok (.ifCond .eq 12, 3) := dq_153 (a := 0) (b := 12) (fd_r fcX11_isUseful (by decide +kernel)) rfl
theorem dX11_isUseful_58 : decode cX11_isUseful 58 = .ok (.iload 5, 2) := dq_21 (a := 5) (fd_r fcX11_isUseful (by decide +kernel))
theorem dX11_isUseful_60 : decode cX11_isUseful 60 = .ok (.iload_n 3, 1) := dq_29 (fd_r fcX11_isUseful (by decide +kernel))
theorem dX11_isUseful_61 : decode cX11_isUseful 61 = .ok (.iand, 1) := dq_126 (fd_r fcX11_isUseful (by decide +kernel))
theorem dX11_isUseful_62 : decode cX11_isUseful 62 = .ok (.ifCond .ne 5, 3) := dq_154 (a := 0) (b := 5) (fd_r fcX11_isUseful (by decide +kernel)) rfl
theorem dX11_isUseful_65 : decode cX11_isUseful 65 = .ok (.iconst 1, 1) := dq_4 (fd_r fcX11_isUseful (by decide +kernel))
theorem dX11_isUseful_66 : decode cX11_isUseful 66 = .ok (.ireturn, 1) := dq_172 (fd_r fcX11_isUseful (by decide +kernel))
theorem dX11_isUseful_67 : decode cX11_isUseful 67 = .ok (.iinc 4 1, 3) := dq_132 (a := 4) (b := 1) (fd_r fcX11_isUseful (by decide +kernel)) rfl
theorem dX11_isUseful_70 : decode cX11_isUseful 70 = .ok (.goto (-45), 3) := dq_167 (a := 255) (b := 211) (fd_r fcX11_isUseful (by decide +kernel)) rfl
theorem dX11_isUseful_73 : decode cX11_isUseful 73 = .ok (.iconst 0, 1) := dq_3 (fd_r fcX11_isUseful (by decide +kernel))
theorem dX11_isUseful_74 : decode cX11_isUseful 74 = .ok (.ireturn, 1) := dq_172 (fd_r fcX11_isUseful (by decide +kernel))
theorem dX11_rowsFitting_0 : decode cX11_rowsFitting 0 = .ok (.iconst 0, 1) := dq_3 (fd_r fcX11_rowsFitting (by decide +kernel))
theorem dX11_rowsFitting_1 : decode cX11_rowsFitting 1 = .ok (.istore_n 2, 1) := dq_61 (fd_r fcX11_rowsFitting (by decide +kernel))
theorem dX11_rowsFitting_2 : decode cX11_rowsFitting 2 = .ok (.iconst 0, 1) := dq_3 (fd_r fcX11_rowsFitting (by decide +kernel))
theorem dX11_rowsFitting_3 : decode cX11_rowsFitting 3 = .ok (.istore_n 3, 1) := dq_62 (fd_r fcX11_rowsFitting (by decide +kernel))
theorem dX11_rowsFitting_4 : decode cX11_rowsFitting 4 = .ok (.iload_n 3, 1) := dq_29 (fd_r fcX11_rowsFitting (by decide +kernel))
theorem dX11_rowsFitting_5 : decode cX11_rowsFitting 5 = .ok (.aload_n 0, 1) := dq_42 (fd_r fcX11_rowsFitting (by decide +kernel))
theorem dX11_rowsFitting_6 : decode cX11_rowsFitting 6 = .ok (.getfield 33, 3) := dq_180 (a := 0) (b := 33) (fd_r fcX11_rowsFitting (by decide +kernel)) rfl
theorem dX11_rowsFitting_9 : decode cX11_rowsFitting 9 = .ok (.getfield 231, 3) := dq_180 (a := 0) (b := 231) (fd_r fcX11_rowsFitting (by decide +kernel)) rfl
theorem dX11_rowsFitting_12 : decode cX11_rowsFitting 12 = .ok (.if_icmp .ge 37, 3) := dq_162 (a := 0) (b := 37) (fd_r fcX11_rowsFitting (by decide +kernel)) rfl
theorem dX11_rowsFitting_15 : decode cX11_rowsFitting 15 = .ok (.aload_n 0, 1) := dq_42 (fd_r fcX11_rowsFitting (by decide +kernel))
theorem dX11_rowsFitting_16 : decode cX11_rowsFitting 16 = .ok (.getfield 33, 3) := dq_180 (a := 0) (b := 33) (fd_r fcX11_rowsFitting (by decide +kernel)) rfl
theorem dX11_rowsFitting_19 : decode cX11_rowsFitting 19 = .ok (.getfield 232, 3) := dq_180 (a := 0) (b := 232) (fd_r fcX11_rowsFitting (by decide +kernel)) rfl
theorem dX11_rowsFitting_22 : decode cX11_rowsFitting 22 = .ok (.iload_n 3, 1) := dq_29 (fd_r fcX11_rowsFitting (by decide +kernel))
theorem dX11_rowsFitting_23 : decode cX11_rowsFitting 23 = .ok (.iaload, 1) := dq_46 (fd_r fcX11_rowsFitting (by decide +kernel))
theorem dX11_rowsFitting_24 : decode cX11_rowsFitting 24 = .ok (.iload_n 1, 1) := dq_27 (fd_r fcX11_rowsFitting (by decide +kernel))
theorem dX11_rowsFitting_25 : decode cX11_rowsFitting 25 = .ok (.invokestatic 234, 3) := dq_184 (a := 0) (b := 234) (fd_r fcX11_rowsFitting (by decide +kernel)) rfl
theorem dX11_rowsFitting_28 : decode cX11_rowsFitting 28 = .ok (.ifCond .eq 15, 3) := dq_153 (a := 0) (b := 15) (fd_r fcX11_rowsFitting (by decide +kernel)) rfl
theorem dX11_rowsFitting_31 : decode cX11_rowsFitting 31 = .ok (.iload_n 2, 1) := dq_28 (fd_r fcX11_rowsFitting (by decide +kernel))
theorem dX11_rowsFitting_32 : decode cX11_rowsFitting 32 = .ok (.aload_n 0, 1) := dq_42 (fd_r fcX11_rowsFitting (by decide +kernel))
theorem dX11_rowsFitting_33 : decode cX11_rowsFitting 33 = .ok (.getfield 33, 3) := dq_180 (a := 0) (b := 33) (fd_r fcX11_rowsFitting (by decide +kernel)) rfl
theorem dX11_rowsFitting_36 : decode cX11_rowsFitting 36 = .ok (.getfield 238, 3) := dq_180 (a := 0) (b := 238) (fd_r fcX11_rowsFitting (by decide +kernel)) rfl
theorem dX11_rowsFitting_39 : decode cX11_rowsFitting 39 = .ok (.iload_n 3, 1) := dq_29 (fd_r fcX11_rowsFitting (by decide +kernel))
theorem dX11_rowsFitting_40 : decode cX11_rowsFitting 40 = .ok (.iaload, 1) := dq_46 (fd_r fcX11_rowsFitting (by decide +kernel))
theorem dX11_rowsFitting_41 : decode cX11_rowsFitting 41 = .ok (.iadd, 1) := dq_96 (fd_r fcX11_rowsFitting (by decide +kernel))
theorem dX11_rowsFitting_42 : decode cX11_rowsFitting 42 = .ok (.istore_n 2, 1) := dq_61 (fd_r fcX11_rowsFitting (by decide +kernel))
theorem dX11_rowsFitting_43 : decode cX11_rowsFitting 43 = .ok (.iinc 3 1, 3) := dq_132 (a := 3) (b := 1) (fd_r fcX11_rowsFitting (by decide +kernel)) rfl
theorem dX11_rowsFitting_46 : decode cX11_rowsFitting 46 = .ok (.goto (-42), 3) := dq_167 (a := 255) (b := 214) (fd_r fcX11_rowsFitting (by decide +kernel)) rfl
theorem dX11_rowsFitting_49 : decode cX11_rowsFitting 49 = .ok (.iload_n 2, 1) := dq_28 (fd_r fcX11_rowsFitting (by decide +kernel))
theorem dX11_rowsFitting_50 : decode cX11_rowsFitting 50 = .ok (.ireturn, 1) := dq_172 (fd_r fcX11_rowsFitting (by decide +kernel))
theorem dX11_rowsTaken_0 : decode cX11_rowsTaken 0 = .ok (.iconst 0, 1) := dq_3 (fd_r fcX11_rowsTaken (by decide +kernel))
theorem dX11_rowsTaken_1 : decode cX11_rowsTaken 1 = .ok (.istore_n 2, 1) := dq_61 (fd_r fcX11_rowsTaken (by decide +kernel))
theorem dX11_rowsTaken_2 : decode cX11_rowsTaken 2 = .ok (.iconst 0, 1) := dq_3 (fd_r fcX11_rowsTaken (by decide +kernel))
theorem dX11_rowsTaken_3 : decode cX11_rowsTaken 3 = .ok (.istore_n 3, 1) := dq_62 (fd_r fcX11_rowsTaken (by decide +kernel))
theorem dX11_rowsTaken_4 : decode cX11_rowsTaken 4 = .ok (.iload_n 3, 1) := dq_29 (fd_r fcX11_rowsTaken (by decide +kernel))
theorem dX11_rowsTaken_5 : decode cX11_rowsTaken 5 = .ok (.aload_n 0, 1) := dq_42 (fd_r fcX11_rowsTaken (by decide +kernel))
theorem dX11_rowsTaken_6 : decode cX11_rowsTaken 6 = .ok (.getfield 33, 3) := dq_180 (a := 0) (b := 33) (fd_r fcX11_rowsTaken (by decide +kernel)) rfl
theorem dX11_rowsTaken_9 : decode cX11_rowsTaken 9 = .ok (.getfield 231, 3) := dq_180 (a := 0) (b := 231) (fd_r fcX11_rowsTaken (by decide +kernel)) rfl
theorem dX11_rowsTaken_12 : decode cX11_rowsTaken 12 = .ok (.if_icmp .ge 52, 3) := dq_162 (a := 0) (b := 52) (fd_r fcX11_rowsTaken (by decide +kernel)) rfl
theorem dX11_rowsTaken_15 : decode cX11_rowsTaken 15 = .ok (.aload_n 0, 1) := dq_42 (fd_r fcX11_rowsTaken (by decide +kernel))
theorem dX11_rowsTaken_16 : decode cX11_rowsTaken 16 = .ok (.getfield 43, 3) := dq_180 (a := 0) (b := 43) (fd_r fcX11_rowsTaken (by decide +kernel)) rfl
theorem dX11_rowsTaken_19 : decode cX11_rowsTaken 19 = .ok (.aload_n 0, 1) := dq_42 (fd_r fcX11_rowsTaken (by decide +kernel))
theorem dX11_rowsTaken_20 : decode cX11_rowsTaken 20 = .ok (.getfield 71, 3) := dq_180 (a := 0) (b := 71) (fd_r fcX11_rowsTaken (by decide +kernel)) rfl
theorem dX11_rowsTaken_23 : decode cX11_rowsTaken 23 = .ok (.aload_n 0, 1) := dq_42 (fd_r fcX11_rowsTaken (by decide +kernel))
theorem dX11_rowsTaken_24 : decode cX11_rowsTaken 24 = .ok (.getfield 33, 3) := dq_180 (a := 0) (b := 33) (fd_r fcX11_rowsTaken (by decide +kernel)) rfl
theorem dX11_rowsTaken_27 : decode cX11_rowsTaken 27 = .ok (.getfield 232, 3) := dq_180 (a := 0) (b := 232) (fd_r fcX11_rowsTaken (by decide +kernel)) rfl
theorem dX11_rowsTaken_30 : decode cX11_rowsTaken 30 = .ok (.iload_n 3, 1) := dq_29 (fd_r fcX11_rowsTaken (by decide +kernel))
theorem dX11_rowsTaken_31 : decode cX11_rowsTaken 31 = .ok (.iaload, 1) := dq_46 (fd_r fcX11_rowsTaken (by decide +kernel))
theorem dX11_rowsTaken_32 : decode cX11_rowsTaken 32 = .ok (.aload_n 0, 1) := dq_42 (fd_r fcX11_rowsTaken (by decide +kernel))
theorem dX11_rowsTaken_33 : decode cX11_rowsTaken 33 = .ok (.getfield 43, 3) := dq_180 (a := 0) (b := 43) (fd_r fcX11_rowsTaken (by decide +kernel)) rfl
theorem dX11_rowsTaken_36 : decode cX11_rowsTaken 36 = .ok (.getfield 177, 3) := dq_180 (a := 0) (b := 177) (fd_r fcX11_rowsTaken (by decide +kernel)) rfl
theorem dX11_rowsTaken_39 : decode cX11_rowsTaken 39 = .ok (.invokevirtual 241, 3) := dq_182 (a := 0) (b := 241) (fd_r fcX11_rowsTaken (by decide +kernel)) rfl
end
section
theorem dX11_rowsTaken_42 : decode cX11_rowsTaken 42 = .ok (.iload_n 1, 1) := dq_27 (fd_r fcX11_rowsTaken (by decide +kernel))
theorem dX11_rowsTaken_43 : decode cX11_rowsTaken 43 = .ok (.if_icmp .ne 15, 3) := dq_160 (a := 0) (b := 15) (fd_r fcX11_rowsTaken (by decide +kernel)) rfl
theorem dX11_rowsTaken_46 : decode cX11_rowsTaken 46 = .ok (.iload_n 2, 1) := dq_28 (fd_r fcX11_rowsTaken (by decide +kernel))
theorem dX11_rowsTaken_47 : decode cX11_rowsTaken 47 = .ok (.aload_n 0, 1) := dq_42 (fd_r fcX11_rowsTaken (by decide +kernel))
theorem dX11_rowsTaken_48 : decode cX11_rowsTaken 48 = .ok (.getfield 33, 3) := dq_180 (a := 0) (b := 33) (fd_r fcX11_rowsTaken (by decide +kernel)) rfl
theorem dX11_rowsTaken_51 : decode cX11_rowsTaken 51 = .ok (.getfield 238, 3) := dq_180 (a := 0) (b := 238) (fd_r fcX11_rowsTaken (by decide +kernel)) rfl
theorem dX11_rowsTaken_54 : decode cX11_rowsTaken 54 = .ok (.iload_n 3, 1) := dq_29 (fd_r fcX11_rowsTaken (by decide +kernel))
theorem dX11_rowsTaken_55 : decode cX11_rowsTaken 55 = .ok (.iaload, 1) := dq_46 (fd_r fcX11_rowsTaken (by decide +kernel))
theorem dX11_rowsTaken_56 : decode cX11_rowsTaken 56 = .ok (.iadd, 1) := dq_96 (fd_r fcX11_rowsTaken (by decide +kernel))
theorem dX11_rowsTaken_57 : decode cX11_rowsTaken 57 = .ok (.istore_n 2, 1) := dq_61 (fd_r fcX11_rowsTaken (by decide +kernel))
theorem dX11_rowsTaken_58 : decode cX11_rowsTaken 58 = .ok (.iinc 3 1, 3) := dq_132 (a := 3) (b := 1) (fd_r fcX11_rowsTaken (by decide +kernel)) rfl
theorem dX11_rowsTaken_61 : decode cX11_rowsTaken 61 = .ok (.goto (-57), 3) := dq_167 (a := 255) (b := 199) (fd_r fcX11_rowsTaken (by decide +kernel)) rfl
theorem dX11_rowsTaken_64 : decode cX11_rowsTaken 64 = .ok (.iload_n 2, 1) := dq_28 (fd_r fcX11_rowsTaken (by decide +kernel))
theorem dX11_rowsTaken_65 : decode cX11_rowsTaken 65 = .ok (.ireturn, 1) := dq_172 (fd_r fcX11_rowsTaken (by decide +kernel))
theorem dX11_fits_0 : decode cX11_fits 0 = .ok (.aload_n 0, 1) := dq_42 (fd_r fcX11_fits (by decide +kernel))
theorem dX11_fits_1 : decode cX11_fits 1 = .ok (.getfield 43, 3) := dq_180 (a := 0) (b := 43) (fd_r fcX11_fits (by decide +kernel)) rfl
theorem dX11_fits_4 : decode cX11_fits 4 = .ok (.iload_n 1, 1) := dq_27 (fd_r fcX11_fits (by decide +kernel))
theorem dX11_fits_5 : decode cX11_fits 5 = .ok (.invokevirtual 212, 3) := dq_182 (a := 0) (b := 212) (fd_r fcX11_fits (by decide +kernel)) rfl
theorem dX11_fits_8 : decode cX11_fits 8 = .ok (.istore 4, 2) := dq_54 (a := 4) (fd_r fcX11_fits (by decide +kernel))
theorem dX11_fits_10 : decode cX11_fits 10 = .ok (.iload 4, 2) := dq_21 (a := 4) (fd_r fcX11_fits (by decide +kernel))
theorem dX11_fits_12 : decode cX11_fits 12 = .ok (.iconst (-1), 1) := dq_2 (fd_r fcX11_fits (by decide +kernel))
theorem dX11_fits_13 : decode cX11_fits 13 = .ok (.if_icmp .eq 18, 3) := dq_159 (a := 0) (b := 18) (fd_r fcX11_fits (by decide +kernel)) rfl
theorem dX11_fits_16 : decode cX11_fits 16 = .ok (.iload_n 2, 1) := dq_28 (fd_r fcX11_fits (by decide +kernel))
theorem dX11_fits_17 : decode cX11_fits 17 = .ok (.ifCond .lt 14, 3) := dq_155 (a := 0) (b := 14) (fd_r fcX11_fits (by decide +kernel)) rfl
theorem dX11_fits_20 : decode cX11_fits 20 = .ok (.iload_n 2, 1) := dq_28 (fd_r fcX11_fits (by decide +kernel))
theorem dX11_fits_21 : decode cX11_fits 21 = .ok (.aload_n 0, 1) := dq_42 (fd_r fcX11_fits (by decide +kernel))
theorem dX11_fits_22 : decode cX11_fits 22 = .ok (.getfield 71, 3) := dq_180 (a := 0) (b := 71) (fd_r fcX11_fits (by decide +kernel)) rfl
theorem dX11_fits_25 : decode cX11_fits 25 = .ok (.getfield 130, 3) := dq_180 (a := 0) (b := 130) (fd_r fcX11_fits (by decide +kernel)) rfl
theorem dX11_fits_28 : decode cX11_fits 28 = .ok (.if_icmp .lt 5, 3) := dq_161 (a := 0) (b := 5) (fd_r fcX11_fits (by decide +kernel)) rfl
theorem dX11_fits_31 : decode cX11_fits 31 = .ok (.iconst (-1), 1) := dq_2 (fd_r fcX11_fits (by decide +kernel))
theorem dX11_fits_32 : decode cX11_fits 32 = .ok (.ireturn, 1) := dq_172 (fd_r fcX11_fits (by decide +kernel))
theorem dX11_fits_33 : decode cX11_fits 33 = .ok (.iload_n 3, 1) := dq_29 (fd_r fcX11_fits (by decide +kernel))
theorem dX11_fits_34 : decode cX11_fits 34 = .ok (.ifCond .lt 16, 3) := dq_155 (a := 0) (b := 16) (fd_r fcX11_fits (by decide +kernel)) rfl
theorem dX11_fits_37 : decode cX11_fits 37 = .ok (.iload_n 3, 1) := dq_29 (fd_r fcX11_fits (by decide +kernel))
theorem dX11_fits_38 : decode cX11_fits 38 = .ok (.aload_n 0, 1) := dq_42 (fd_r fcX11_fits (by decide +kernel))
theorem dX11_fits_39 : decode cX11_fits 39 = .ok (.getfield 71, 3) := dq_180 (a := 0) (b := 71) (fd_r fcX11_fits (by decide +kernel)) rfl
theorem dX11_fits_42 : decode cX11_fits 42 = .ok (.getfield 245, 3) := dq_180 (a := 0) (b := 245) (fd_r fcX11_fits (by decide +kernel)) rfl
theorem dX11_fits_45 : decode cX11_fits 45 = .ok (.iload_n 2, 1) := dq_28 (fd_r fcX11_fits (by decide +kernel))
theorem dX11_fits_46 : decode cX11_fits 46 = .ok (.iaload, 1) := dq_46 (fd_r fcX11_fits (by decide +kernel))
theorem dX11_fits_47 : decode cX11_fits 47 = .ok (.if_icmp .lt 5, 3) := dq_161 (a := 0) (b := 5) (fd_r fcX11_fits (by decide +kernel)) rfl
theorem dX11_fits_50 : decode cX11_fits 50 = .ok (.iconst (-1), 1) := dq_2 (fd_r fcX11_fits (by decide +kernel))
theorem dX11_fits_51 : decode cX11_fits 51 = .ok (.ireturn, 1) := dq_172 (fd_r fcX11_fits (by decide +kernel))
theorem dX11_fits_52 : decode cX11_fits 52 = .ok (.aload_n 0, 1) := dq_42 (fd_r fcX11_fits (by decide +kernel))
theorem dX11_fits_53 : decode cX11_fits 53 = .ok (.getfield 71, 3) := dq_180 (a := 0) (b := 71) (fd_r fcX11_fits (by decide +kernel)) rfl
theorem dX11_fits_56 : decode cX11_fits 56 = .ok (.iload_n 2, 1) := dq_28 (fd_r fcX11_fits (by decide +kernel))
theorem dX11_fits_57 : decode cX11_fits 57 = .ok (.iload_n 3, 1) := dq_29 (fd_r fcX11_fits (by decide +kernel))
theorem dX11_fits_58 : decode cX11_fits 58 = .ok (.invokevirtual 246, 3) := dq_182 (a := 0) (b := 246) (fd_r fcX11_fits (by decide +kernel)) rfl
theorem dX11_fits_61 : decode cX11_fits 61 = .ok (.iload 4, 2) := dq_21 (a := 4) (fd_r fcX11_fits (by decide +kernel))
theorem dX11_fits_63 : decode cX11_fits 63 = .ok (.invokestatic 234, 3) := dq_184 (a := 0) (b := 234) (fd_r fcX11_fits (by decide +kernel)) rfl
theorem dX11_fits_66 : decode cX11_fits 66 = .ok (.ifCond .eq 7, 3) := dq_153 (a := 0) (b := 7) (fd_r fcX11_fits (by decide +kernel)) rfl
theorem dX11_fits_69 : decode cX11_fits 69 = .ok (.iconst 1, 1) := dq_4 (fd_r fcX11_fits (by decide +kernel))
theorem dX11_fits_70 : decode cX11_fits 70 = .ok (.goto 4, 3) := dq_167 (a := 0) (b := 4) (fd_r fcX11_fits (by decide +kernel)) rfl
theorem dX11_fits_73 : decode cX11_fits 73 = .ok (.iconst 0, 1) := dq_3 (fd_r fcX11_fits (by decide +kernel))
theorem dX11_fits_74 : decode cX11_fits 74 = .ok (.ireturn, 1) := dq_172 (fd_r fcX11_fits (by decide +kernel))
theorem dX11_holds_0 : decode cX11_holds 0 = .ok (.aload_n 0, 1) := dq_42 (fd_r fcX11_holds (by decide +kernel))
theorem dX11_holds_1 : decode cX11_holds 1 = .ok (.getfield 43, 3) := dq_180 (a := 0) (b := 43) (fd_r fcX11_holds (by decide +kernel)) rfl
theorem dX11_holds_4 : decode cX11_holds 4 = .ok (.iload_n 1, 1) := dq_27 (fd_r fcX11_holds (by decide +kernel))
theorem dX11_holds_5 : decode cX11_holds 5 = .ok (.invokevirtual 212, 3) := dq_182 (a := 0) (b := 212) (fd_r fcX11_holds (by decide +kernel)) rfl
theorem dX11_holds_8 : decode cX11_holds 8 = .ok (.istore_n 3, 1) := dq_62 (fd_r fcX11_holds (by decide +kernel))
theorem dX11_holds_9 : decode cX11_holds 9 = .ok (.aload_n 0, 1) := dq_42 (fd_r fcX11_holds (by decide +kernel))
theorem dX11_holds_10 : decode cX11_holds 10 = .ok (.getfield 43, 3) := dq_180 (a := 0) (b := 43) (fd_r fcX11_holds (by decide +kernel)) rfl
theorem dX11_holds_13 : decode cX11_holds 13 = .ok (.iload_n 2, 1) := dq_28 (fd_r fcX11_holds (by decide +kernel))
theorem dX11_holds_14 : decode cX11_holds 14 = .ok (.invokevirtual 212, 3) := dq_182 (a := 0) (b := 212) (fd_r fcX11_holds (by decide +kernel)) rfl
theorem dX11_holds_17 : decode cX11_holds 17 = .ok (.istore 4, 2) := dq_54 (a := 4) (fd_r fcX11_holds (by decide +kernel))
theorem dX11_holds_19 : decode cX11_holds 19 = .ok (.iload_n 3, 1) := dq_29 (fd_r fcX11_holds (by decide +kernel))
theorem dX11_holds_20 : decode cX11_holds 20 = .ok (.iconst (-1), 1) := dq_2 (fd_r fcX11_holds (by decide +kernel))
theorem dX11_holds_21 : decode cX11_holds 21 = .ok (.if_icmp .eq 9, 3) := dq_159 (a := 0) (b := 9) (fd_r fcX11_holds (by decide +kernel)) rfl
theorem dX11_holds_24 : decode cX11_holds 24 = .ok (.iload 4, 2) := dq_21 (a := 4) (fd_r fcX11_holds (by decide +kernel))
theorem dX11_holds_26 : decode cX11_holds 26 = .ok (.iconst (-1), 1) := dq_2 (fd_r fcX11_holds (by decide +kernel))
theorem dX11_holds_27 : decode cX11_holds 27 = .ok (.if_icmp .ne 5, 3) := dq_160 (a := 0) (b := 5) (fd_r fcX11_holds (by decide +kernel)) rfl
theorem dX11_holds_30 : decode cX11_holds 30 = .ok (.iconst (-1), 1) := dq_2 (fd_r fcX11_holds (by decide +kernel))
theorem dX11_holds_31 : decode cX11_holds 31 = .ok (.ireturn, 1) := dq_172 (fd_r fcX11_holds (by decide +kernel))
theorem dX11_holds_32 : decode cX11_holds 32 = .ok (.iconst 0, 1) := dq_3 (fd_r fcX11_holds (by decide +kernel))
theorem dX11_holds_33 : decode cX11_holds 33 = .ok (.istore 5, 2) := dq_54 (a := 5) (fd_r fcX11_holds (by decide +kernel))
theorem dX11_holds_35 : decode cX11_holds 35 = .ok (.iload 5, 2) := dq_21 (a := 5) (fd_r fcX11_holds (by decide +kernel))
theorem dX11_holds_37 : decode cX11_holds 37 = .ok (.aload_n 0, 1) := dq_42 (fd_r fcX11_holds (by decide +kernel))
theorem dX11_holds_38 : decode cX11_holds 38 = .ok (.getfield 33, 3) := dq_180 (a := 0) (b := 33) (fd_r fcX11_holds (by decide +kernel)) rfl
theorem dX11_holds_41 : decode cX11_holds 41 = .ok (.getfield 231, 3) := dq_180 (a := 0) (b := 231) (fd_r fcX11_holds (by decide +kernel)) rfl
theorem dX11_holds_44 : decode cX11_holds 44 = .ok (.if_icmp .ge 42, 3) := dq_162 (a := 0) (b := 42) (fd_r fcX11_holds (by decide +kernel)) rfl
theorem dX11_holds_47 : decode cX11_holds 47 = .ok (.aload_n 0, 1) := dq_42 (fd_r fcX11_holds (by decide +kernel))
theorem dX11_holds_48 : decode cX11_holds 48 = .ok (.getfield 33, 3) := dq_180 (a := 0) (b := 33) (fd_r fcX11_holds (by decide +kernel)) rfl
theorem dX11_holds_51 : decode cX11_holds 51 = .ok (.getfield 232, 3) := dq_180 (a := 0) (b := 232) (fd_r fcX11_holds (by decide +kernel)) rfl
theorem dX11_holds_54 : decode cX11_holds 54 = .ok (.iload 5, 2) := dq_21 (a := 5) (fd_r fcX11_holds (by decide +kernel))
theorem dX11_holds_56 : decode cX11_holds 56 = .ok (.iaload, 1) := dq_46 (fd_r fcX11_holds (by decide +kernel))
theorem dX11_holds_57 : decode cX11_holds 57 = .ok (.istore 6, 2) := dq_54 (a := 6) (fd_r fcX11_holds (by decide +kernel))
theorem dX11_holds_59 : decode cX11_holds 59 = .ok (.iload 6, 2) := dq_21 (a := 6) (fd_r fcX11_holds (by decide +kernel))
theorem dX11_holds_61 : decode cX11_holds 61 = .ok (.iload 4, 2) := dq_21 (a := 4) (fd_r fcX11_holds (by decide +kernel))
theorem dX11_holds_63 : decode cX11_holds 63 = .ok (.invokestatic 234, 3) := dq_184 (a := 0) (b := 234) (fd_r fcX11_holds (by decide +kernel)) rfl
theorem dX11_holds_66 : decode cX11_holds 66 = .ok (.ifCond .eq 14, 3) := dq_153 (a := 0) (b := 14) (fd_r fcX11_holds (by decide +kernel)) rfl
theorem dX11_holds_69 : decode cX11_holds 69 = .ok (.iload 6, 2) := dq_21 (a := 6) (fd_r fcX11_holds (by decide +kernel))
theorem dX11_holds_71 : decode cX11_holds 71 = .ok (.iload_n 3, 1) := dq_29 (fd_r fcX11_holds (by decide +kernel))
theorem dX11_holds_72 : decode cX11_holds 72 = .ok (.invokestatic 234, 3) := dq_184 (a := 0) (b := 234) (fd_r fcX11_holds (by decide +kernel)) rfl
theorem dX11_holds_75 : decode cX11_holds 75 = .ok (.ifCond .ne 5, 3) := dq_154 (a := 0) (b := 5) (fd_r fcX11_holds (by decide +kernel)) rfl
theorem dX11_holds_78 : decode cX11_holds 78 = .ok (.iconst 0, 1) := dq_3 (fd_r fcX11_holds (by decide +kernel))
theorem dX11_holds_79 : decode cX11_holds 79 = .ok (.ireturn, 1) := dq_172 (fd_r fcX11_holds (by decide +kernel))
theorem dX11_holds_80 : decode cX11_holds 80 = .ok (.iinc 5 1, 3) := dq_132 (a := 5) (b := 1) (fd_r fcX11_holds (by decide +kernel)) rfl
theorem dX11_holds_83 : decode cX11_holds 83 = .ok (.goto (-48), 3) := dq_167 (a := 255) (b := 208) (fd_r fcX11_holds (by decide +kernel)) rfl
theorem dX11_holds_86 : decode cX11_holds 86 = .ok (.iconst 1, 1) := dq_4 (fd_r fcX11_holds (by decide +kernel))
theorem dX11_holds_87 : decode cX11_holds 87 = .ok (.ireturn, 1) := dq_172 (fd_r fcX11_holds (by decide +kernel))
theorem dX11_missing_0 : decode cX11_missing 0 = .ok (.aload_n 0, 1) := dq_42 (fd_r fcX11_missing (by decide +kernel))
theorem dX11_missing_1 : decode cX11_missing 1 = .ok (.invokevirtual 204, 3) := dq_182 (a := 0) (b := 204) (fd_r fcX11_missing (by decide +kernel)) rfl
theorem dX11_missing_4 : decode cX11_missing 4 = .ok (.ifCond .eq 8, 3) := dq_153 (a := 0) (b := 8) (fd_r fcX11_missing (by decide +kernel)) rfl
theorem dX11_missing_7 : decode cX11_missing 7 = .ok (.iload_n 1, 1) := dq_27 (fd_r fcX11_missing (by decide +kernel))
theorem dX11_missing_8 : decode cX11_missing 8 = .ok (.iconst (-1), 1) := dq_2 (fd_r fcX11_missing (by decide +kernel))
theorem dX11_missing_9 : decode cX11_missing 9 = .ok (.if_icmp .ge 5, 3) := dq_162 (a := 0) (b := 5) (fd_r fcX11_missing (by decide +kernel)) rfl
theorem dX11_missing_12 : decode cX11_missing 12 = .ok (.iconst (-1), 1) := dq_2 (fd_r fcX11_missing (by decide +kernel))
theorem dX11_missing_13 : decode cX11_missing 13 = .ok (.ireturn, 1) := dq_172 (fd_r fcX11_missing (by decide +kernel))
theorem dX11_missing_14 : decode cX11_missing 14 = .ok (.aload_n 0, 1) := dq_42 (fd_r fcX11_missing (by decide +kernel))
theorem dX11_missing_15 : decode cX11_missing 15 = .ok (.getfield 43, 3) := dq_180 (a := 0) (b := 43) (fd_r fcX11_missing (by decide +kernel)) rfl
theorem dX11_missing_18 : decode cX11_missing 18 = .ok (.aload_n 0, 1) := dq_42 (fd_r fcX11_missing (by decide +kernel))
theorem dX11_missing_19 : decode cX11_missing 19 = .ok (.getfield 71, 3) := dq_180 (a := 0) (b := 71) (fd_r fcX11_missing (by decide +kernel)) rfl
theorem dX11_missing_22 : decode cX11_missing 22 = .ok (.aload_n 0, 1) := dq_42 (fd_r fcX11_missing (by decide +kernel))
theorem dX11_missing_23 : decode cX11_missing 23 = .ok (.getfield 43, 3) := dq_180 (a := 0) (b := 43) (fd_r fcX11_missing (by decide +kernel)) rfl
theorem dX11_missing_26 : decode cX11_missing 26 = .ok (.getfield 176, 3) := dq_180 (a := 0) (b := 176) (fd_r fcX11_missing (by decide +kernel)) rfl
theorem dX11_missing_29 : decode cX11_missing 29 = .ok (.invokevirtual 227, 3) := dq_182 (a := 0) (b := 227) (fd_r fcX11_missing (by decide +kernel)) rfl
theorem dX11_missing_32 : decode cX11_missing 32 = .ok (.istore_n 2, 1) := dq_61 (fd_r fcX11_missing (by decide +kernel))
theorem dX11_missing_33 : decode cX11_missing 33 = .ok (.iload_n 1, 1) := dq_27 (fd_r fcX11_missing (by decide +kernel))
theorem dX11_missing_34 : decode cX11_missing 34 = .ok (.iconst (-1), 1) := dq_2 (fd_r fcX11_missing (by decide +kernel))
theorem dX11_missing_35 : decode cX11_missing 35 = .ok (.if_icmp .ne 11, 3) := dq_160 (a := 0) (b := 11) (fd_r fcX11_missing (by decide +kernel)) rfl
theorem dX11_missing_38 : decode cX11_missing 38 = .ok (.aload_n 0, 1) := dq_42 (fd_r fcX11_missing (by decide +kernel))
theorem dX11_missing_39 : decode cX11_missing 39 = .ok (.iload_n 2, 1) := dq_28 (fd_r fcX11_missing (by decide +kernel))
theorem dX11_missing_40 : decode cX11_missing 40 = .ok (.invokevirtual 249, 3) := dq_182 (a := 0) (b := 249) (fd_r fcX11_missing (by decide +kernel)) rfl
theorem dX11_missing_43 : decode cX11_missing 43 = .ok (.goto 9, 3) := dq_167 (a := 0) (b := 9) (fd_r fcX11_missing (by decide +kernel)) rfl
theorem dX11_missing_46 : decode cX11_missing 46 = .ok (.aload_n 0, 1) := dq_42 (fd_r fcX11_missing (by decide +kernel))
theorem dX11_missing_47 : decode cX11_missing 47 = .ok (.iload_n 2, 1) := dq_28 (fd_r fcX11_missing (by decide +kernel))
theorem dX11_missing_48 : decode cX11_missing 48 = .ok (.iload_n 1, 1) := dq_27 (fd_r fcX11_missing (by decide +kernel))
theorem dX11_missing_49 : decode cX11_missing 49 = .ok (.invokevirtual 252, 3) := dq_182 (a := 0) (b := 252) (fd_r fcX11_missing (by decide +kernel)) rfl
theorem dX11_missing_52 : decode cX11_missing 52 = .ok (.ireturn, 1) := dq_172 (fd_r fcX11_missing (by decide +kernel))
theorem dX11_countMissing_0 : decode cX11_countMissing 0 = .ok (.iconst 0, 1) := dq_3 (fd_r fcX11_countMissing (by decide +kernel))
theorem dX11_countMissing_1 : decode cX11_countMissing 1 = .ok (.istore_n 2, 1) := dq_61 (fd_r fcX11_countMissing (by decide +kernel))
theorem dX11_countMissing_2 : decode cX11_countMissing 2 = .ok (.iconst 0, 1) := dq_3 (fd_r fcX11_countMissing (by decide +kernel))
theorem dX11_countMissing_3 : decode cX11_countMissing 3 = .ok (.istore_n 3, 1) := dq_62 (fd_r fcX11_countMissing (by decide +kernel))
theorem dX11_countMissing_4 : decode cX11_countMissing 4 = .ok (.iload_n 3, 1) := dq_29 (fd_r fcX11_countMissing (by decide +kernel))
theorem dX11_countMissing_5 : decode cX11_countMissing 5 = .ok (.aload_n 0, 1) := dq_42 (fd_r fcX11_countMissing (by decide +kernel))
theorem dX11_countMissing_6 : decode cX11_countMissing 6 = .ok (.getfield 33, 3) := dq_180 (a := 0) (b := 33) (fd_r fcX11_countMissing (by decide +kernel)) rfl
theorem dX11_countMissing_9 : decode cX11_countMissing 9 = .ok (.getfield 231, 3) := dq_180 (a := 0) (b := 231) (fd_r fcX11_countMissing (by decide +kernel)) rfl
theorem dX11_countMissing_12 : decode cX11_countMissing 12 = .ok (.if_icmp .ge 35, 3) := dq_162 (a := 0) (b := 35) (fd_r fcX11_countMissing (by decide +kernel)) rfl
theorem dX11_countMissing_15 : decode cX11_countMissing 15 = .ok (.aload_n 0, 1) := dq_42 (fd_r fcX11_countMissing (by decide +kernel))
theorem dX11_countMissing_16 : decode cX11_countMissing 16 = .ok (.getfield 33, 3) := dq_180 (a := 0) (b := 33) (fd_r fcX11_countMissing (by decide +kernel)) rfl
theorem dX11_countMissing_19 : decode cX11_countMissing 19 = .ok (.getfield 232, 3) := dq_180 (a := 0) (b := 232) (fd_r fcX11_countMissing (by decide +kernel)) rfl
theorem dX11_countMissing_22 : decode cX11_countMissing 22 = .ok (.iload_n 3, 1) := dq_29 (fd_r fcX11_countMissing (by decide +kernel))
theorem dX11_countMissing_23 : decode cX11_countMissing 23 = .ok (.iaload, 1) := dq_46 (fd_r fcX11_countMissing (by decide +kernel))
theorem dX11_countMissing_24 : decode cX11_countMissing 24 = .ok (.iload_n 1, 1) := dq_27 (fd_r fcX11_countMissing (by decide +kernel))
theorem dX11_countMissing_25 : decode cX11_countMissing 25 = .ok (.iand, 1) := dq_126 (fd_r fcX11_countMissing (by decide +kernel))
theorem dX11_countMissing_26 : decode cX11_countMissing 26 = .ok (.ifCond .ne 15, 3) := dq_154 (a := 0) (b := 15) (fd_r fcX11_countMissing (by decide +kernel)) rfl
theorem dX11_countMissing_29 : decode cX11_countMissing 29 = .ok (.iload_n 2, 1) := dq_28 (fd_r fcX11_countMissing (by decide +kernel))
theorem dX11_countMissing_30 : decode cX11_countMissing 30 = .ok (.aload_n 0, 1) := dq_42 (fd_r fcX11_countMissing (by decide +kernel))
theorem dX11_countMissing_31 : decode cX11_countMissing 31 = .ok (.getfield 33, 3) := dq_180 (a := 0) (b := 33) (fd_r fcX11_countMissing (by decide +kernel)) rfl
theorem dX11_countMissing_34 : decode cX11_countMissing 34 = .ok (.getfield 238, 3) := dq_180 (a := 0) (b := 238) (fd_r fcX11_countMissing (by decide +kernel)) rfl
theorem dX11_countMissing_37 : decode cX11_countMissing 37 = .ok (.iload_n 3, 1) := dq_29 (fd_r fcX11_countMissing (by decide +kernel))
theorem dX11_countMissing_38 : decode cX11_countMissing 38 = .ok (.iaload, 1) := dq_46 (fd_r fcX11_countMissing (by decide +kernel))
theorem dX11_countMissing_39 : decode cX11_countMissing 39 = .ok (.iadd, 1) := dq_96 (fd_r fcX11_countMissing (by decide +kernel))
theorem dX11_countMissing_40 : decode cX11_countMissing 40 = .ok (.istore_n 2, 1) := dq_61 (fd_r fcX11_countMissing (by decide +kernel))
theorem dX11_countMissing_41 : decode cX11_countMissing 41 = .ok (.iinc 3 1, 3) := dq_132 (a := 3) (b := 1) (fd_r fcX11_countMissing (by decide +kernel)) rfl
theorem dX11_countMissing_44 : decode cX11_countMissing 44 = .ok (.goto (-40), 3) := dq_167 (a := 255) (b := 216) (fd_r fcX11_countMissing (by decide +kernel)) rfl
theorem dX11_countMissing_47 : decode cX11_countMissing 47 = .ok (.iload_n 2, 1) := dq_28 (fd_r fcX11_countMissing (by decide +kernel))
theorem dX11_countMissing_48 : decode cX11_countMissing 48 = .ok (.ireturn, 1) := dq_172 (fd_r fcX11_countMissing (by decide +kernel))
theorem dX11_findMissing_0 : decode cX11_findMissing 0 = .ok (.iconst 0, 1) := dq_3 (fd_r fcX11_findMissing (by decide +kernel))
theorem dX11_findMissing_1 : decode cX11_findMissing 1 = .ok (.istore_n 3, 1) := dq_62 (fd_r fcX11_findMissing (by decide +kernel))
theorem dX11_findMissing_2 : decode cX11_findMissing 2 = .ok (.iconst 0, 1) := dq_3 (fd_r fcX11_findMissing (by decide +kernel))
theorem dX11_findMissing_3 : decode cX11_findMissing 3 = .ok (.istore 4, 2) := dq_54 (a := 4) (fd_r fcX11_findMissing (by decide +kernel))
theorem dX11_findMissing_5 : decode cX11_findMissing 5 = .ok (.iload 4, 2) := dq_21 (a := 4) (fd_r fcX11_findMissing (by decide +kernel))
theorem dX11_findMissing_7 : decode cX11_findMissing 7 = .ok (.aload_n 0, 1) := dq_42 (fd_r fcX11_findMissing (by decide +kernel))
theorem dX11_findMissing_8 : decode cX11_findMissing 8 = .ok (.getfield 71, 3) := dq_180 (a := 0) (b := 71) (fd_r fcX11_findMissing (by decide +kernel)) rfl
theorem dX11_findMissing_11 : decode cX11_findMissing 11 = .ok (.getfield 173, 3) := dq_180 (a := 0) (b := 173) (fd_r fcX11_findMissing (by decide +kernel)) rfl
theorem dX11_findMissing_14 : decode cX11_findMissing 14 = .ok (.if_icmp .ge 34, 3) := dq_162 (a := 0) (b := 34) (fd_r fcX11_findMissing (by decide +kernel)) rfl
theorem dX11_findMissing_17 : decode cX11_findMissing 17 = .ok (.aload_n 0, 1) := dq_42 (fd_r fcX11_findMissing (by decide +kernel))
theorem dX11_findMissing_18 : decode cX11_findMissing 18 = .ok (.getfield 71, 3) := dq_180 (a := 0) (b := 71) (fd_r fcX11_findMissing (by decide +kernel)) rfl
theorem dX11_findMissing_21 : decode cX11_findMissing 21 = .ok (.iload 4, 2) := dq_21 (a := 4) (fd_r fcX11_findMissing (by decide +kernel))
theorem dX11_findMissing_23 : decode cX11_findMissing 23 = .ok (.invokevirtual 255, 3) := dq_182 (a := 0) (b := 255) (fd_r fcX11_findMissing (by decide +kernel)) rfl
theorem dX11_findMissing_26 : decode cX11_findMissing 26 = .ok (.iload_n 1, 1) := dq_27 (fd_r fcX11_findMissing (by decide +kernel))
theorem dX11_findMissing_27 : decode cX11_findMissing 27 = .ok (.iand, 1) := dq_126 (fd_r fcX11_findMissing (by decide +kernel))
theorem dX11_findMissing_28 : decode cX11_findMissing 28 = .ok (.ifCond .ne 14, 3) := dq_154 (a := 0) (b := 14) (fd_r fcX11_findMissing (by decide +kernel)) rfl
theorem dX11_findMissing_31 : decode cX11_findMissing 31 = .ok (.iload_n 3, 1) := dq_29 (fd_r fcX11_findMissing (by decide +kernel))
theorem dX11_findMissing_32 : decode cX11_findMissing 32 = .ok (.iload_n 2, 1) := dq_28 (fd_r fcX11_findMissing (by decide +kernel))
theorem dX11_findMissing_33 : decode cX11_findMissing 33 = .ok (.if_icmp .ne 6, 3) := dq_160 (a := 0) (b := 6) (fd_r fcX11_findMissing (by decide +kernel)) rfl
theorem dX11_findMissing_36 : decode cX11_findMissing 36 = .ok (.iload 4, 2) := dq_21 (a := 4) (fd_r fcX11_findMissing (by decide +kernel))
theorem dX11_findMissing_38 : decode cX11_findMissing 38 = .ok (.ireturn, 1) := dq_172 (fd_r fcX11_findMissing (by decide +kernel))
theorem dX11_findMissing_39 : decode cX11_findMissing 39 = .ok (.iinc 3 1, 3) := dq_132 (a := 3) (b := 1) (fd_r fcX11_findMissing (by decide +kernel)) rfl
theorem dX11_findMissing_42 : decode cX11_findMissing 42 = .ok (.iinc 4 1, 3) := dq_132 (a := 4) (b := 1) (fd_r fcX11_findMissing (by decide +kernel)) rfl
theorem dX11_findMissing_45 : decode cX11_findMissing 45 = .ok (.goto (-40), 3) := dq_167 (a := 255) (b := 216) (fd_r fcX11_findMissing (by decide +kernel)) rfl
theorem dX11_findMissing_48 : decode cX11_findMissing 48 = .ok (.iconst (-1), 1) := dq_2 (fd_r fcX11_findMissing (by decide +kernel))
theorem dX11_findMissing_49 : decode cX11_findMissing 49 = .ok (.ireturn, 1) := dq_172 (fd_r fcX11_findMissing (by decide +kernel))
theorem dX11_taken_0 : decode cX11_taken 0 = .ok (.aload_n 0, 1) := dq_42 (fd_r fcX11_taken (by decide +kernel))
theorem dX11_taken_1 : decode cX11_taken 1 = .ok (.getfield 71, 3) := dq_180 (a := 0) (b := 71) (fd_r fcX11_taken (by decide +kernel)) rfl
theorem dX11_taken_4 : decode cX11_taken 4 = .ok (.iload_n 1, 1) := dq_27 (fd_r fcX11_taken (by decide +kernel))
theorem dX11_taken_5 : decode cX11_taken 5 = .ok (.invokevirtual 258, 3) := dq_182 (a := 1) (b := 2) (fd_r fcX11_taken (by decide +kernel)) rfl
theorem dX11_taken_8 : decode cX11_taken 8 = .ok (.ifCond .ne 5, 3) := dq_154 (a := 0) (b := 5) (fd_r fcX11_taken (by decide +kernel)) rfl
theorem dX11_taken_11 : decode cX11_taken 11 = .ok (.iconst (-1), 1) := dq_2 (fd_r fcX11_taken (by decide +kernel))
theorem dX11_taken_12 : decode cX11_taken 12 = .ok (.ireturn, 1) := dq_172 (fd_r fcX11_taken (by decide +kernel))
theorem dX11_taken_13 : decode cX11_taken 13 = .ok (.aload_n 0, 1) := dq_42 (fd_r fcX11_taken (by decide +kernel))
theorem dX11_taken_14 : decode cX11_taken 14 = .ok (.getfield 43, 3) := dq_180 (a := 0) (b := 43) (fd_r fcX11_taken (by decide +kernel)) rfl
theorem dX11_taken_17 : decode cX11_taken 17 = .ok (.aload_n 0, 1) := dq_42 (fd_r fcX11_taken (by decide +kernel))
theorem dX11_taken_18 : decode cX11_taken 18 = .ok (.getfield 71, 3) := dq_180 (a := 0) (b := 71) (fd_r fcX11_taken (by decide +kernel)) rfl
theorem dX11_taken_21 : decode cX11_taken 21 = .ok (.aload_n 0, 1) := dq_42 (fd_r fcX11_taken (by decide +kernel))
theorem dX11_taken_22 : decode cX11_taken 22 = .ok (.getfield 71, 3) := dq_180 (a := 0) (b := 71) (fd_r fcX11_taken (by decide +kernel)) rfl
theorem dX11_taken_25 : decode cX11_taken 25 = .ok (.iload_n 1, 1) := dq_27 (fd_r fcX11_taken (by decide +kernel))
theorem dX11_taken_26 : decode cX11_taken 26 = .ok (.invokevirtual 255, 3) := dq_182 (a := 0) (b := 255) (fd_r fcX11_taken (by decide +kernel)) rfl
theorem dX11_taken_29 : decode cX11_taken 29 = .ok (.aload_n 0, 1) := dq_42 (fd_r fcX11_taken (by decide +kernel))
theorem dX11_taken_30 : decode cX11_taken 30 = .ok (.getfield 43, 3) := dq_180 (a := 0) (b := 43) (fd_r fcX11_taken (by decide +kernel)) rfl
theorem dX11_taken_33 : decode cX11_taken 33 = .ok (.getfield 177, 3) := dq_180 (a := 0) (b := 177) (fd_r fcX11_taken (by decide +kernel)) rfl
theorem dX11_taken_36 : decode cX11_taken 36 = .ok (.invokevirtual 241, 3) := dq_182 (a := 0) (b := 241) (fd_r fcX11_taken (by decide +kernel)) rfl
theorem dX11_taken_39 : decode cX11_taken 39 = .ok (.ireturn, 1) := dq_172 (fd_r fcX11_taken (by decide +kernel))
theorem dX11_row_0 : decode cX11_row 0 = .ok (.aload_n 0, 1) := dq_42 (fd_r fcX11_row (by decide +kernel))
theorem dX11_row_1 : decode cX11_row 1 = .ok (.getfield 83, 3) := dq_180 (a := 0) (b := 83) (fd_r fcX11_row (by decide +kernel)) rfl
theorem dX11_row_4 : decode cX11_row 4 = .ok (.aload_n 0, 1) := dq_42 (fd_r fcX11_row (by decide +kernel))
theorem dX11_row_5 : decode cX11_row 5 = .ok (.getfield 14, 3) := dq_180 (a := 0) (b := 14) (fd_r fcX11_row (by decide +kernel)) rfl
theorem dX11_row_8 : decode cX11_row 8 = .ok (.aload_n 0, 1) := dq_42 (fd_r fcX11_row (by decide +kernel))
theorem dX11_row_9 : decode cX11_row 9 = .ok (.getfield 71, 3) := dq_180 (a := 0) (b := 71) (fd_r fcX11_row (by decide +kernel)) rfl
theorem dX11_row_12 : decode cX11_row 12 = .ok (.invokevirtual 261, 3) := dq_182 (a := 1) (b := 5) (fd_r fcX11_row (by decide +kernel)) rfl
theorem dX11_row_15 : decode cX11_row 15 = .ok (.istore_n 1, 1) := dq_60 (fd_r fcX11_row (by decide +kernel))
theorem dX11_row_16 : decode cX11_row 16 = .ok (.aload_n 0, 1) := dq_42 (fd_r fcX11_row (by decide +kernel))
theorem dX11_row_17 : decode cX11_row 17 = .ok (.getfield 14, 3) := dq_180 (a := 0) (b := 14) (fd_r fcX11_row (by decide +kernel)) rfl
theorem dX11_row_20 : decode cX11_row 20 = .ok (.iconst 0, 1) := dq_3 (fd_r fcX11_row (by decide +kernel))
theorem dX11_row_21 : decode cX11_row 21 = .ok (.putfield 100, 3) := dq_181 (a := 0) (b := 100) (fd_r fcX11_row (by decide +kernel)) rfl
theorem dX11_row_24 : decode cX11_row 24 = .ok (.iload_n 1, 1) := dq_27 (fd_r fcX11_row (by decide +kernel))
theorem dX11_row_25 : decode cX11_row 25 = .ok (.iconst (-1), 1) := dq_2 (fd_r fcX11_row (by decide +kernel))
theorem dX11_row_26 : decode cX11_row 26 = .ok (.if_icmp .ne 9, 3) := dq_160 (a := 0) (b := 9) (fd_r fcX11_row (by decide +kernel)) rfl
theorem dX11_row_29 : decode cX11_row 29 = .ok (.aload_n 0, 1) := dq_42 (fd_r fcX11_row (by decide +kernel))
theorem dX11_row_30 : decode cX11_row 30 = .ok (.iconst 1, 1) := dq_4 (fd_r fcX11_row (by decide +kernel))
theorem dX11_row_31 : decode cX11_row 31 = .ok (.invokevirtual 103, 3) := dq_182 (a := 0) (b := 103) (fd_r fcX11_row (by decide +kernel)) rfl
theorem dX11_row_34 : decode cX11_row 34 = .ok (.pop, 1) := dq_87 (fd_r fcX11_row (by decide +kernel))
theorem dX11_row_35 : decode cX11_row 35 = .ok (.iload_n 1, 1) := dq_27 (fd_r fcX11_row (by decide +kernel))
theorem dX11_row_36 : decode cX11_row 36 = .ok (.ireturn, 1) := dq_172 (fd_r fcX11_row (by decide +kernel))
theorem dX11_text_0 : decode cX11_text 0 = .ok (.aload_n 0, 1) := dq_42 (fd_r fcX11_text (by decide +kernel))
theorem dX11_text_1 : decode cX11_text 1 = .ok (.getfield 71, 3) := dq_180 (a := 0) (b := 71) (fd_r fcX11_text (by decide +kernel)) rfl
theorem dX11_text_4 : decode cX11_text 4 = .ok (.iload_n 1, 1) := dq_27 (fd_r fcX11_text (by decide +kernel))
theorem dX11_text_5 : decode cX11_text 5 = .ok (.invokevirtual 258, 3) := dq_182 (a := 1) (b := 2) (fd_r fcX11_text (by decide +kernel)) rfl
theorem dX11_text_8 : decode cX11_text 8 = .ok (.ifCond .ne 5, 3) := dq_154 (a := 0) (b := 5) (fd_r fcX11_text (by decide +kernel)) rfl
theorem dX11_text_11 : decode cX11_text 11 = .ok (.iconst (-1), 1) := dq_2 (fd_r fcX11_text (by decide +kernel))
theorem dX11_text_12 : decode cX11_text 12 = .ok (.ireturn, 1) := dq_172 (fd_r fcX11_text (by decide +kernel))
theorem dX11_text_13 : decode cX11_text 13 = .ok (.aload_n 0, 1) := dq_42 (fd_r fcX11_text (by decide +kernel))
theorem dX11_text_14 : decode cX11_text 14 = .ok (.getfield 18, 3) := dq_180 (a := 0) (b := 18) (fd_r fcX11_text (by decide +kernel)) rfl
theorem dX11_text_17 : decode cX11_text 17 = .ok (.iconst 0, 1) := dq_3 (fd_r fcX11_text (by decide +kernel))
theorem dX11_text_18 : decode cX11_text 18 = .ok (.putfield 100, 3) := dq_181 (a := 0) (b := 100) (fd_r fcX11_text (by decide +kernel)) rfl
theorem dX11_text_21 : decode cX11_text 21 = .ok (.iconst 0, 1) := dq_3 (fd_r fcX11_text (by decide +kernel))
theorem dX11_text_22 : decode cX11_text 22 = .ok (.istore_n 2, 1) := dq_61 (fd_r fcX11_text (by decide +kernel))
theorem dX11_text_23 : decode cX11_text 23 = .ok (.iload_n 2, 1) := dq_28 (fd_r fcX11_text (by decide +kernel))
theorem dX11_text_24 : decode cX11_text 24 = .ok (.aload_n 0, 1) := dq_42 (fd_r fcX11_text (by decide +kernel))
theorem dX11_text_25 : decode cX11_text 25 = .ok (.getfield 71, 3) := dq_180 (a := 0) (b := 71) (fd_r fcX11_text (by decide +kernel)) rfl
theorem dX11_text_28 : decode cX11_text 28 = .ok (.getfield 130, 3) := dq_180 (a := 0) (b := 130) (fd_r fcX11_text (by decide +kernel)) rfl
theorem dX11_text_31 : decode cX11_text 31 = .ok (.if_icmp .ge 55, 3) := dq_162 (a := 0) (b := 55) (fd_r fcX11_text (by decide +kernel)) rfl
theorem dX11_text_34 : decode cX11_text 34 = .ok (.iload_n 2, 1) := dq_28 (fd_r fcX11_text (by decide +kernel))
theorem dX11_text_35 : decode cX11_text 35 = .ok (.ifCond .le 12, 3) := dq_158 (a := 0) (b := 12) (fd_r fcX11_text (by decide +kernel)) rfl
theorem dX11_text_38 : decode cX11_text 38 = .ok (.aload_n 0, 1) := dq_42 (fd_r fcX11_text (by decide +kernel))
theorem dX11_text_39 : decode cX11_text 39 = .ok (.getfield 18, 3) := dq_180 (a := 0) (b := 18) (fd_r fcX11_text (by decide +kernel)) rfl
theorem dX11_text_42 : decode cX11_text 42 = .ok (.bipush 44, 2) := dq_16 (a := 44) (fd_r fcX11_text (by decide +kernel)) rfl
theorem dX11_text_44 : decode cX11_text 44 = .ok (.invokevirtual 264, 3) := dq_182 (a := 1) (b := 8) (fd_r fcX11_text (by decide +kernel)) rfl
theorem dX11_text_47 : decode cX11_text 47 = .ok (.aload_n 0, 1) := dq_42 (fd_r fcX11_text (by decide +kernel))
theorem dX11_text_48 : decode cX11_text 48 = .ok (.getfield 18, 3) := dq_180 (a := 0) (b := 18) (fd_r fcX11_text (by decide +kernel)) rfl
theorem dX11_text_51 : decode cX11_text 51 = .ok (.aload_n 0, 1) := dq_42 (fd_r fcX11_text (by decide +kernel))
theorem dX11_text_52 : decode cX11_text 52 = .ok (.getfield 71, 3) := dq_180 (a := 0) (b := 71) (fd_r fcX11_text (by decide +kernel)) rfl
theorem dX11_text_55 : decode cX11_text 55 = .ok (.getfield 162, 3) := dq_180 (a := 0) (b := 162) (fd_r fcX11_text (by decide +kernel)) rfl
theorem dX11_text_58 : decode cX11_text 58 = .ok (.aload_n 0, 1) := dq_42 (fd_r fcX11_text (by decide +kernel))
theorem dX11_text_59 : decode cX11_text 59 = .ok (.getfield 71, 3) := dq_180 (a := 0) (b := 71) (fd_r fcX11_text (by decide +kernel)) rfl
theorem dX11_text_62 : decode cX11_text 62 = .ok (.getfield 266, 3) := dq_180 (a := 1) (b := 10) (fd_r fcX11_text (by decide +kernel)) rfl
theorem dX11_text_65 : decode cX11_text 65 = .ok (.iload_n 2, 1) := dq_28 (fd_r fcX11_text (by decide +kernel))
theorem dX11_text_66 : decode cX11_text 66 = .ok (.iaload, 1) := dq_46 (fd_r fcX11_text (by decide +kernel))
theorem dX11_text_67 : decode cX11_text 67 = .ok (.aload_n 0, 1) := dq_42 (fd_r fcX11_text (by decide +kernel))
theorem dX11_text_68 : decode cX11_text 68 = .ok (.getfield 71, 3) := dq_180 (a := 0) (b := 71) (fd_r fcX11_text (by decide +kernel)) rfl
theorem dX11_text_71 : decode cX11_text 71 = .ok (.iload_n 1, 1) := dq_27 (fd_r fcX11_text (by decide +kernel))
theorem dX11_text_72 : decode cX11_text 72 = .ok (.iload_n 2, 1) := dq_28 (fd_r fcX11_text (by decide +kernel))
theorem dX11_text_73 : decode cX11_text 73 = .ok (.invokevirtual 269, 3) := dq_182 (a := 1) (b := 13) (fd_r fcX11_text (by decide +kernel)) rfl
theorem dX11_text_76 : decode cX11_text 76 = .ok (.iconst 0, 1) := dq_3 (fd_r fcX11_text (by decide +kernel))
theorem dX11_text_77 : decode cX11_text 77 = .ok (.invokestatic 272, 3) := dq_184 (a := 1) (b := 16) (fd_r fcX11_text (by decide +kernel)) rfl
theorem dX11_text_80 : decode cX11_text 80 = .ok (.iinc 2 1, 3) := dq_132 (a := 2) (b := 1) (fd_r fcX11_text (by decide +kernel)) rfl
theorem dX11_text_83 : decode cX11_text 83 = .ok (.goto (-60), 3) := dq_167 (a := 255) (b := 196) (fd_r fcX11_text (by decide +kernel)) rfl
theorem dX11_text_86 : decode cX11_text 86 = .ok (.aload_n 0, 1) := dq_42 (fd_r fcX11_text (by decide +kernel))
theorem dX11_text_87 : decode cX11_text 87 = .ok (.getfield 18, 3) := dq_180 (a := 0) (b := 18) (fd_r fcX11_text (by decide +kernel)) rfl
theorem dX11_text_90 : decode cX11_text 90 = .ok (.getfield 100, 3) := dq_180 (a := 0) (b := 100) (fd_r fcX11_text (by decide +kernel)) rfl
theorem dX11_text_93 : decode cX11_text 93 = .ok (.ireturn, 1) := dq_172 (fd_r fcX11_text (by decide +kernel))
theorem dX11_writeValue_0 : decode cX11_writeValue 0 = .ok (.iload_n 2, 1) := dq_28 (fd_r fcX11_writeValue (by decide +kernel))
theorem dX11_writeValue_1 : decode cX11_writeValue 1 = .ok (.iconst (-1), 1) := dq_2 (fd_r fcX11_writeValue (by decide +kernel))
theorem dX11_writeValue_2 : decode cX11_writeValue 2 = .ok (.if_icmp .ne 9, 3) := dq_160 (a := 0) (b := 9) (fd_r fcX11_writeValue (by decide +kernel)) rfl
theorem dX11_writeValue_5 : decode cX11_writeValue 5 = .ok (.aload_n 0, 1) := dq_42 (fd_r fcX11_writeValue (by decide +kernel))
theorem dX11_writeValue_6 : decode cX11_writeValue 6 = .ok (.iload_n 3, 1) := dq_29 (fd_r fcX11_writeValue (by decide +kernel))
theorem dX11_writeValue_7 : decode cX11_writeValue 7 = .ok (.invokevirtual 276, 3) := dq_182 (a := 1) (b := 20) (fd_r fcX11_writeValue (by decide +kernel)) rfl
theorem dX11_writeValue_10 : decode cX11_writeValue 10 = .ok (.return_, 1) := dq_177 (fd_r fcX11_writeValue (by decide +kernel))
theorem dX11_writeValue_11 : decode cX11_writeValue 11 = .ok (.aload_n 1, 1) := dq_43 (fd_r fcX11_writeValue (by decide +kernel))
theorem dX11_writeValue_12 : decode cX11_writeValue 12 = .ok (.iload_n 2, 1) := dq_28 (fd_r fcX11_writeValue (by decide +kernel))
theorem dX11_writeValue_13 : decode cX11_writeValue 13 = .ok (.iload_n 3, 1) := dq_29 (fd_r fcX11_writeValue (by decide +kernel))
theorem dX11_writeValue_14 : decode cX11_writeValue 14 = .ok (.invokevirtual 279, 3) := dq_182 (a := 1) (b := 23) (fd_r fcX11_writeValue (by decide +kernel)) rfl
theorem dX11_writeValue_17 : decode cX11_writeValue 17 = .ok (.istore 5, 2) := dq_54 (a := 5) (fd_r fcX11_writeValue (by decide +kernel))
theorem dX11_writeValue_19 : decode cX11_writeValue 19 = .ok (.iload 5, 2) := dq_21 (a := 5) (fd_r fcX11_writeValue (by decide +kernel))
theorem dX11_writeValue_21 : decode cX11_writeValue 21 = .ok (.iconst (-1), 1) := dq_2 (fd_r fcX11_writeValue (by decide +kernel))
theorem dX11_writeValue_22 : decode cX11_writeValue 22 = .ok (.if_icmp .eq 9, 3) := dq_159 (a := 0) (b := 9) (fd_r fcX11_writeValue (by decide +kernel)) rfl
theorem dX11_writeValue_25 : decode cX11_writeValue 25 = .ok (.iload 4, 2) := dq_21 (a := 4) (fd_r fcX11_writeValue (by decide +kernel))
theorem dX11_writeValue_27 : decode cX11_writeValue 27 = .ok (.iconst 4, 1) := dq_7 (fd_r fcX11_writeValue (by decide +kernel))
theorem dX11_writeValue_28 : decode cX11_writeValue 28 = .ok (.if_icmp .le 4, 3) := dq_164 (a := 0) (b := 4) (fd_r fcX11_writeValue (by decide +kernel)) rfl
theorem dX11_writeValue_31 : decode cX11_writeValue 31 = .ok (.return_, 1) := dq_177 (fd_r fcX11_writeValue (by decide +kernel))
theorem dX11_writeValue_32 : decode cX11_writeValue 32 = .ok (.aload_n 0, 1) := dq_42 (fd_r fcX11_writeValue (by decide +kernel))
theorem dX11_writeValue_33 : decode cX11_writeValue 33 = .ok (.aload_n 1, 1) := dq_43 (fd_r fcX11_writeValue (by decide +kernel))
theorem dX11_writeValue_34 : decode cX11_writeValue 34 = .ok (.getfield 201, 3) := dq_180 (a := 0) (b := 201) (fd_r fcX11_writeValue (by decide +kernel)) rfl
theorem dX11_writeValue_37 : decode cX11_writeValue 37 = .ok (.iload 5, 2) := dq_21 (a := 5) (fd_r fcX11_writeValue (by decide +kernel))
theorem dX11_writeValue_39 : decode cX11_writeValue 39 = .ok (.iaload, 1) := dq_46 (fd_r fcX11_writeValue (by decide +kernel))
theorem dX11_writeValue_40 : decode cX11_writeValue 40 = .ok (.invokevirtual 282, 3) := dq_182 (a := 1) (b := 26) (fd_r fcX11_writeValue (by decide +kernel)) rfl
theorem dX11_writeValue_43 : decode cX11_writeValue 43 = .ok (.aload_n 1, 1) := dq_43 (fd_r fcX11_writeValue (by decide +kernel))
theorem dX11_writeValue_44 : decode cX11_writeValue 44 = .ok (.iload 5, 2) := dq_21 (a := 5) (fd_r fcX11_writeValue (by decide +kernel))
theorem dX11_writeValue_46 : decode cX11_writeValue 46 = .ok (.invokevirtual 285, 3) := dq_182 (a := 1) (b := 29) (fd_r fcX11_writeValue (by decide +kernel)) rfl
theorem dX11_writeValue_49 : decode cX11_writeValue 49 = .ok (.istore 6, 2) := dq_54 (a := 6) (fd_r fcX11_writeValue (by decide +kernel))
theorem dX11_writeValue_51 : decode cX11_writeValue 51 = .ok (.aload_n 1, 1) := dq_43 (fd_r fcX11_writeValue (by decide +kernel))
theorem dX11_writeValue_52 : decode cX11_writeValue 52 = .ok (.getfield 288, 3) := dq_180 (a := 1) (b := 32) (fd_r fcX11_writeValue (by decide +kernel)) rfl
theorem dX11_writeValue_55 : decode cX11_writeValue 55 = .ok (.iload 5, 2) := dq_21 (a := 5) (fd_r fcX11_writeValue (by decide +kernel))
theorem dX11_writeValue_57 : decode cX11_writeValue 57 = .ok (.iaload, 1) := dq_46 (fd_r fcX11_writeValue (by decide +kernel))
theorem dX11_writeValue_58 : decode cX11_writeValue 58 = .ok (.ifCond .eq 8, 3) := dq_153 (a := 0) (b := 8) (fd_r fcX11_writeValue (by decide +kernel)) rfl
theorem dX11_writeValue_61 : decode cX11_writeValue 61 = .ok (.iload 6, 2) := dq_21 (a := 6) (fd_r fcX11_writeValue (by decide +kernel))
theorem dX11_writeValue_63 : decode cX11_writeValue 63 = .ok (.ifCond .gt 4, 3) := dq_157 (a := 0) (b := 4) (fd_r fcX11_writeValue (by decide +kernel)) rfl
theorem dX11_writeValue_66 : decode cX11_writeValue 66 = .ok (.return_, 1) := dq_177 (fd_r fcX11_writeValue (by decide +kernel))
theorem dX11_writeValue_67 : decode cX11_writeValue 67 = .ok (.iload_n 3, 1) := dq_29 (fd_r fcX11_writeValue (by decide +kernel))
theorem dX11_writeValue_68 : decode cX11_writeValue 68 = .ok (.aload_n 1, 1) := dq_43 (fd_r fcX11_writeValue (by decide +kernel))
theorem dX11_writeValue_69 : decode cX11_writeValue 69 = .ok (.getfield 291, 3) := dq_180 (a := 1) (b := 35) (fd_r fcX11_writeValue (by decide +kernel)) rfl
theorem dX11_writeValue_72 : decode cX11_writeValue 72 = .ok (.iload 5, 2) := dq_21 (a := 5) (fd_r fcX11_writeValue (by decide +kernel))
theorem dX11_writeValue_74 : decode cX11_writeValue 74 = .ok (.iaload, 1) := dq_46 (fd_r fcX11_writeValue (by decide +kernel))
theorem dX11_writeValue_75 : decode cX11_writeValue 75 = .ok (.isub, 1) := dq_100 (fd_r fcX11_writeValue (by decide +kernel))
theorem dX11_writeValue_76 : decode cX11_writeValue 76 = .ok (.istore 7, 2) := dq_54 (a := 7) (fd_r fcX11_writeValue (by decide +kernel))
theorem dX11_writeValue_78 : decode cX11_writeValue 78 = .ok (.aload_n 0, 1) := dq_42 (fd_r fcX11_writeValue (by decide +kernel))
theorem dX11_writeValue_79 : decode cX11_writeValue 79 = .ok (.bipush 40, 2) := dq_16 (a := 40) (fd_r fcX11_writeValue (by decide +kernel)) rfl
theorem dX11_writeValue_81 : decode cX11_writeValue 81 = .ok (.invokevirtual 264, 3) := dq_182 (a := 1) (b := 8) (fd_r fcX11_writeValue (by decide +kernel)) rfl
theorem dX11_writeValue_84 : decode cX11_writeValue 84 = .ok (.aload_n 0, 1) := dq_42 (fd_r fcX11_writeValue (by decide +kernel))
theorem dX11_writeValue_85 : decode cX11_writeValue 85 = .ok (.aload_n 1, 1) := dq_43 (fd_r fcX11_writeValue (by decide +kernel))
theorem dX11_writeValue_86 : decode cX11_writeValue 86 = .ok (.aload_n 1, 1) := dq_43 (fd_r fcX11_writeValue (by decide +kernel))
theorem dX11_writeValue_87 : decode cX11_writeValue 87 = .ok (.getfield 294, 3) := dq_180 (a := 1) (b := 38) (fd_r fcX11_writeValue (by decide +kernel)) rfl
theorem dX11_writeValue_90 : decode cX11_writeValue 90 = .ok (.iload 5, 2) := dq_21 (a := 5) (fd_r fcX11_writeValue (by decide +kernel))
theorem dX11_writeValue_92 : decode cX11_writeValue 92 = .ok (.iaload, 1) := dq_46 (fd_r fcX11_writeValue (by decide +kernel))
theorem dX11_writeValue_93 : decode cX11_writeValue 93 = .ok (.iload 7, 2) := dq_21 (a := 7) (fd_r fcX11_writeValue (by decide +kernel))
theorem dX11_writeValue_95 : decode cX11_writeValue 95 = .ok (.iload 6, 2) := dq_21 (a := 6) (fd_r fcX11_writeValue (by decide +kernel))
theorem dX11_writeValue_97 : decode cX11_writeValue 97 = .ok (.idiv, 1) := dq_108 (fd_r fcX11_writeValue (by decide +kernel))
theorem dX11_writeValue_98 : decode cX11_writeValue 98 = .ok (.iload 4, 2) := dq_21 (a := 4) (fd_r fcX11_writeValue (by decide +kernel))
theorem dX11_writeValue_100 : decode cX11_writeValue 100 = .ok (.iconst 1, 1) := dq_4 (fd_r fcX11_writeValue (by decide +kernel))
theorem dX11_writeValue_101 : decode cX11_writeValue 101 = .ok (.iadd, 1) := dq_96 (fd_r fcX11_writeValue (by decide +kernel))
theorem dX11_writeValue_102 : decode cX11_writeValue 102 = .ok (.invokestatic 272, 3) := dq_184 (a := 1) (b := 16) (fd_r fcX11_writeValue (by decide +kernel)) rfl
theorem dX11_writeValue_105 : decode cX11_writeValue 105 = .ok (.aload_n 1, 1) := dq_43 (fd_r fcX11_writeValue (by decide +kernel))
theorem dX11_writeValue_106 : decode cX11_writeValue 106 = .ok (.getfield 288, 3) := dq_180 (a := 1) (b := 32) (fd_r fcX11_writeValue (by decide +kernel)) rfl
theorem dX11_writeValue_109 : decode cX11_writeValue 109 = .ok (.iload 5, 2) := dq_21 (a := 5) (fd_r fcX11_writeValue (by decide +kernel))
theorem dX11_writeValue_111 : decode cX11_writeValue 111 = .ok (.iaload, 1) := dq_46 (fd_r fcX11_writeValue (by decide +kernel))
theorem dX11_writeValue_112 : decode cX11_writeValue 112 = .ok (.iconst 2, 1) := dq_5 (fd_r fcX11_writeValue (by decide +kernel))
theorem dX11_writeValue_113 : decode cX11_writeValue 113 = .ok (.if_icmp .ne 30, 3) := dq_160 (a := 0) (b := 30) (fd_r fcX11_writeValue (by decide +kernel)) rfl
theorem dX11_writeValue_116 : decode cX11_writeValue 116 = .ok (.aload_n 0, 1) := dq_42 (fd_r fcX11_writeValue (by decide +kernel))
theorem dX11_writeValue_117 : decode cX11_writeValue 117 = .ok (.bipush 44, 2) := dq_16 (a := 44) (fd_r fcX11_writeValue (by decide +kernel)) rfl
theorem dX11_writeValue_119 : decode cX11_writeValue 119 = .ok (.invokevirtual 264, 3) := dq_182 (a := 1) (b := 8) (fd_r fcX11_writeValue (by decide +kernel)) rfl
theorem dX11_writeValue_122 : decode cX11_writeValue 122 = .ok (.aload_n 0, 1) := dq_42 (fd_r fcX11_writeValue (by decide +kernel))
theorem dX11_writeValue_123 : decode cX11_writeValue 123 = .ok (.aload_n 1, 1) := dq_43 (fd_r fcX11_writeValue (by decide +kernel))
theorem dX11_writeValue_124 : decode cX11_writeValue 124 = .ok (.aload_n 1, 1) := dq_43 (fd_r fcX11_writeValue (by decide +kernel))
theorem dX11_writeValue_125 : decode cX11_writeValue 125 = .ok (.getfield 297, 3) := dq_180 (a := 1) (b := 41) (fd_r fcX11_writeValue (by decide +kernel)) rfl
theorem dX11_writeValue_128 : decode cX11_writeValue 128 = .ok (.iload 5, 2) := dq_21 (a := 5) (fd_r fcX11_writeValue (by decide +kernel))
theorem dX11_writeValue_130 : decode cX11_writeValue 130 = .ok (.iaload, 1) := dq_46 (fd_r fcX11_writeValue (by decide +kernel))
theorem dX11_writeValue_131 : decode cX11_writeValue 131 = .ok (.iload 7, 2) := dq_21 (a := 7) (fd_r fcX11_writeValue (by decide +kernel))
theorem dX11_writeValue_133 : decode cX11_writeValue 133 = .ok (.iload 6, 2) := dq_21 (a := 6) (fd_r fcX11_writeValue (by decide +kernel))
theorem dX11_writeValue_135 : decode cX11_writeValue 135 = .ok (.irem, 1) := dq_112 (fd_r fcX11_writeValue (by decide +kernel))
theorem dX11_writeValue_136 : decode cX11_writeValue 136 = .ok (.iload 4, 2) := dq_21 (a := 4) (fd_r fcX11_writeValue (by decide +kernel))
theorem dX11_writeValue_138 : decode cX11_writeValue 138 = .ok (.iconst 1, 1) := dq_4 (fd_r fcX11_writeValue (by decide +kernel))
theorem dX11_writeValue_139 : decode cX11_writeValue 139 = .ok (.iadd, 1) := dq_96 (fd_r fcX11_writeValue (by decide +kernel))
theorem dX11_writeValue_140 : decode cX11_writeValue 140 = .ok (.invokestatic 272, 3) := dq_184 (a := 1) (b := 16) (fd_r fcX11_writeValue (by decide +kernel)) rfl
theorem dX11_writeValue_143 : decode cX11_writeValue 143 = .ok (.aload_n 0, 1) := dq_42 (fd_r fcX11_writeValue (by decide +kernel))
theorem dX11_writeValue_144 : decode cX11_writeValue 144 = .ok (.bipush 41, 2) := dq_16 (a := 41) (fd_r fcX11_writeValue (by decide +kernel)) rfl
theorem dX11_writeValue_146 : decode cX11_writeValue 146 = .ok (.invokevirtual 264, 3) := dq_182 (a := 1) (b := 8) (fd_r fcX11_writeValue (by decide +kernel)) rfl
theorem dX11_writeValue_149 : decode cX11_writeValue 149 = .ok (.return_, 1) := dq_177 (fd_r fcX11_writeValue (by decide +kernel))
theorem dX11_octet_0 : decode cX11_octet 0 = .ok (.aload_n 0, 1) := dq_42 (fd_r fcX11_octet (by decide +kernel))
theorem dX11_octet_1 : decode cX11_octet 1 = .ok (.getfield 18, 3) := dq_180 (a := 0) (b := 18) (fd_r fcX11_octet (by decide +kernel)) rfl
theorem dX11_octet_4 : decode cX11_octet 4 = .ok (.iload_n 1, 1) := dq_27 (fd_r fcX11_octet (by decide +kernel))
theorem dX11_octet_5 : decode cX11_octet 5 = .ok (.invokevirtual 300, 3) := dq_182 (a := 1) (b := 44) (fd_r fcX11_octet (by decide +kernel)) rfl
theorem dX11_octet_8 : decode cX11_octet 8 = .ok (.ireturn, 1) := dq_172 (fd_r fcX11_octet (by decide +kernel))
theorem dX11_tree_0 : decode cX11_tree 0 = .ok (.aload_n 0, 1) := dq_42 (fd_r fcX11_tree (by decide +kernel))
theorem dX11_tree_1 : decode cX11_tree 1 = .ok (.invokevirtual 204, 3) := dq_182 (a := 0) (b := 204) (fd_r fcX11_tree (by decide +kernel)) rfl
theorem dX11_tree_4 : decode cX11_tree 4 = .ok (.ifCond .eq 10, 3) := dq_153 (a := 0) (b := 10) (fd_r fcX11_tree (by decide +kernel)) rfl
theorem dX11_tree_7 : decode cX11_tree 7 = .ok (.iload_n 1, 1) := dq_27 (fd_r fcX11_tree (by decide +kernel))
theorem dX11_tree_8 : decode cX11_tree 8 = .ok (.invokestatic 303, 3) := dq_184 (a := 1) (b := 47) (fd_r fcX11_tree (by decide +kernel)) rfl
theorem dX11_tree_11 : decode cX11_tree 11 = .ok (.ifCond .ne 5, 3) := dq_154 (a := 0) (b := 5) (fd_r fcX11_tree (by decide +kernel)) rfl
theorem dX11_tree_14 : decode cX11_tree 14 = .ok (.iconst (-1), 1) := dq_2 (fd_r fcX11_tree (by decide +kernel))
theorem dX11_tree_15 : decode cX11_tree 15 = .ok (.ireturn, 1) := dq_172 (fd_r fcX11_tree (by decide +kernel))
theorem dX11_tree_16 : decode cX11_tree 16 = .ok (.aload_n 0, 1) := dq_42 (fd_r fcX11_tree (by decide +kernel))
theorem dX11_tree_17 : decode cX11_tree 17 = .ok (.getfield 92, 3) := dq_180 (a := 0) (b := 92) (fd_r fcX11_tree (by decide +kernel)) rfl
theorem dX11_tree_20 : decode cX11_tree 20 = .ok (.aload_n 0, 1) := dq_42 (fd_r fcX11_tree (by decide +kernel))
theorem dX11_tree_21 : decode cX11_tree 21 = .ok (.getfield 43, 3) := dq_180 (a := 0) (b := 43) (fd_r fcX11_tree (by decide +kernel)) rfl
theorem dX11_tree_24 : decode cX11_tree 24 = .ok (.iload_n 1, 1) := dq_27 (fd_r fcX11_tree (by decide +kernel))
theorem dX11_tree_25 : decode cX11_tree 25 = .ok (.invokevirtual 306, 3) := dq_182 (a := 1) (b := 50) (fd_r fcX11_tree (by decide +kernel)) rfl
theorem dX11_tree_28 : decode cX11_tree 28 = .ok (.lstore_n 3, 1) := dq_66 (fd_r fcX11_tree (by decide +kernel))
theorem dX11_tree_29 : decode cX11_tree 29 = .ok (.iload_n 2, 1) := dq_28 (fd_r fcX11_tree (by decide +kernel))
theorem dX11_tree_30 : decode cX11_tree 30 = .ok (.tableswitch 53 0 3 #[30, 35, 43, 48], 30) := by decide +kernel
theorem dX11_tree_60 : decode cX11_tree 60 = .ok (.lload_n 3, 1) := dq_33 (fd_r fcX11_tree (by decide +kernel))
theorem dX11_tree_61 : decode cX11_tree 61 = .ok (.invokestatic 310, 3) := dq_184 (a := 1) (b := 54) (fd_r fcX11_tree (by decide +kernel)) rfl
theorem dX11_tree_64 : decode cX11_tree 64 = .ok (.ireturn, 1) := dq_172 (fd_r fcX11_tree (by decide +kernel))
theorem dX11_tree_65 : decode cX11_tree 65 = .ok (.aload_n 0, 1) := dq_42 (fd_r fcX11_tree (by decide +kernel))
theorem dX11_tree_66 : decode cX11_tree 66 = .ok (.getfield 92, 3) := dq_180 (a := 0) (b := 92) (fd_r fcX11_tree (by decide +kernel)) rfl
theorem dX11_tree_69 : decode cX11_tree 69 = .ok (.getfield 314, 3) := dq_180 (a := 1) (b := 58) (fd_r fcX11_tree (by decide +kernel)) rfl
theorem dX11_tree_72 : decode cX11_tree 72 = .ok (.ireturn, 1) := dq_172 (fd_r fcX11_tree (by decide +kernel))
theorem dX11_tree_73 : decode cX11_tree 73 = .ok (.lload_n 3, 1) := dq_33 (fd_r fcX11_tree (by decide +kernel))
theorem dX11_tree_74 : decode cX11_tree 74 = .ok (.invokestatic 317, 3) := dq_184 (a := 1) (b := 61) (fd_r fcX11_tree (by decide +kernel)) rfl
theorem dX11_tree_77 : decode cX11_tree 77 = .ok (.ireturn, 1) := dq_172 (fd_r fcX11_tree (by decide +kernel))
theorem dX11_tree_78 : decode cX11_tree 78 = .ok (.lload_n 3, 1) := dq_33 (fd_r fcX11_tree (by decide +kernel))
theorem dX11_tree_79 : decode cX11_tree 79 = .ok (.invokestatic 320, 3) := dq_184 (a := 1) (b := 64) (fd_r fcX11_tree (by decide +kernel)) rfl
theorem dX11_tree_82 : decode cX11_tree 82 = .ok (.ireturn, 1) := dq_172 (fd_r fcX11_tree (by decide +kernel))
theorem dX11_tree_83 : decode cX11_tree 83 = .ok (.iconst (-1), 1) := dq_2 (fd_r fcX11_tree (by decide +kernel))
theorem dX11_tree_84 : decode cX11_tree 84 = .ok (.ireturn, 1) := dq_172 (fd_r fcX11_tree (by decide +kernel))
theorem dX11_first_0 : decode cX11_first 0 = .ok (.aload_n 0, 1) := dq_42 (fd_r fcX11_first (by decide +kernel))
theorem dX11_first_1 : decode cX11_first 1 = .ok (.invokevirtual 204, 3) := dq_182 (a := 0) (b := 204) (fd_r fcX11_first (by decide +kernel)) rfl
theorem dX11_first_4 : decode cX11_first 4 = .ok (.ifCond .eq 10, 3) := dq_153 (a := 0) (b := 10) (fd_r fcX11_first (by decide +kernel)) rfl
theorem dX11_first_7 : decode cX11_first 7 = .ok (.iload_n 1, 1) := dq_27 (fd_r fcX11_first (by decide +kernel))
theorem dX11_first_8 : decode cX11_first 8 = .ok (.invokestatic 303, 3) := dq_184 (a := 1) (b := 47) (fd_r fcX11_first (by decide +kernel)) rfl
theorem dX11_first_11 : decode cX11_first 11 = .ok (.ifCond .ne 5, 3) := dq_154 (a := 0) (b := 5) (fd_r fcX11_first (by decide +kernel)) rfl
theorem dX11_first_14 : decode cX11_first 14 = .ok (.iconst (-1), 1) := dq_2 (fd_r fcX11_first (by decide +kernel))
theorem dX11_first_15 : decode cX11_first 15 = .ok (.ireturn, 1) := dq_172 (fd_r fcX11_first (by decide +kernel))
theorem dX11_first_16 : decode cX11_first 16 = .ok (.aload_n 0, 1) := dq_42 (fd_r fcX11_first (by decide +kernel))
theorem dX11_first_17 : decode cX11_first 17 = .ok (.getfield 92, 3) := dq_180 (a := 0) (b := 92) (fd_r fcX11_first (by decide +kernel)) rfl
theorem dX11_first_20 : decode cX11_first 20 = .ok (.aload_n 0, 1) := dq_42 (fd_r fcX11_first (by decide +kernel))
theorem dX11_first_21 : decode cX11_first 21 = .ok (.getfield 43, 3) := dq_180 (a := 0) (b := 43) (fd_r fcX11_first (by decide +kernel)) rfl
theorem dX11_first_24 : decode cX11_first 24 = .ok (.iload_n 1, 1) := dq_27 (fd_r fcX11_first (by decide +kernel))
theorem dX11_first_25 : decode cX11_first 25 = .ok (.invokevirtual 323, 3) := dq_182 (a := 1) (b := 67) (fd_r fcX11_first (by decide +kernel)) rfl
theorem dX11_first_28 : decode cX11_first 28 = .ok (.ireturn, 1) := dq_172 (fd_r fcX11_first (by decide +kernel))
theorem dX11_scopes_0 : decode cX11_scopes 0 = .ok (.aload_n 0, 1) := dq_42 (fd_r fcX11_scopes (by decide +kernel))
theorem dX11_scopes_1 : decode cX11_scopes 1 = .ok (.invokevirtual 204, 3) := dq_182 (a := 0) (b := 204) (fd_r fcX11_scopes (by decide +kernel)) rfl
theorem dX11_scopes_4 : decode cX11_scopes 4 = .ok (.ifCond .eq 10, 3) := dq_153 (a := 0) (b := 10) (fd_r fcX11_scopes (by decide +kernel)) rfl
theorem dX11_scopes_7 : decode cX11_scopes 7 = .ok (.iload_n 1, 1) := dq_27 (fd_r fcX11_scopes (by decide +kernel))
theorem dX11_scopes_8 : decode cX11_scopes 8 = .ok (.invokestatic 303, 3) := dq_184 (a := 1) (b := 47) (fd_r fcX11_scopes (by decide +kernel)) rfl
theorem dX11_scopes_11 : decode cX11_scopes 11 = .ok (.ifCond .ne 5, 3) := dq_154 (a := 0) (b := 5) (fd_r fcX11_scopes (by decide +kernel)) rfl
theorem dX11_scopes_14 : decode cX11_scopes 14 = .ok (.iconst (-1), 1) := dq_2 (fd_r fcX11_scopes (by decide +kernel))
theorem dX11_scopes_15 : decode cX11_scopes 15 = .ok (.ireturn, 1) := dq_172 (fd_r fcX11_scopes (by decide +kernel))
theorem dX11_scopes_16 : decode cX11_scopes 16 = .ok (.aload_n 0, 1) := dq_42 (fd_r fcX11_scopes (by decide +kernel))
theorem dX11_scopes_17 : decode cX11_scopes 17 = .ok (.getfield 92, 3) := dq_180 (a := 0) (b := 92) (fd_r fcX11_scopes (by decide +kernel)) rfl
theorem dX11_scopes_20 : decode cX11_scopes 20 = .ok (.aload_n 0, 1) := dq_42 (fd_r fcX11_scopes (by decide +kernel))
theorem dX11_scopes_21 : decode cX11_scopes 21 = .ok (.getfield 43, 3) := dq_180 (a := 0) (b := 43) (fd_r fcX11_scopes (by decide +kernel)) rfl
theorem dX11_scopes_24 : decode cX11_scopes 24 = .ok (.iload_n 1, 1) := dq_27 (fd_r fcX11_scopes (by decide +kernel))
theorem dX11_scopes_25 : decode cX11_scopes 25 = .ok (.invokevirtual 327, 3) := dq_182 (a := 1) (b := 71) (fd_r fcX11_scopes (by decide +kernel)) rfl
theorem dX11_scopes_28 : decode cX11_scopes 28 = .ok (.iload_n 2, 1) := dq_28 (fd_r fcX11_scopes (by decide +kernel))
theorem dX11_scopes_29 : decode cX11_scopes 29 = .ok (.tableswitch 72 0 3 #[31, 39, 47, 63], 31) := by decide +kernel
theorem dX11_scopes_60 : decode cX11_scopes 60 = .ok (.aload_n 0, 1) := dq_42 (fd_r fcX11_scopes (by decide +kernel))
theorem dX11_scopes_61 : decode cX11_scopes 61 = .ok (.getfield 92, 3) := dq_180 (a := 0) (b := 92) (fd_r fcX11_scopes (by decide +kernel)) rfl
theorem dX11_scopes_64 : decode cX11_scopes 64 = .ok (.getfield 331, 3) := dq_180 (a := 1) (b := 75) (fd_r fcX11_scopes (by decide +kernel)) rfl
theorem dX11_scopes_67 : decode cX11_scopes 67 = .ok (.ireturn, 1) := dq_172 (fd_r fcX11_scopes (by decide +kernel))
theorem dX11_scopes_68 : decode cX11_scopes 68 = .ok (.aload_n 0, 1) := dq_42 (fd_r fcX11_scopes (by decide +kernel))
end
end
section
section
theorem dX11_scopes_69 : decode cX11_scopes 69 = .ok (.getfield 92, 3) := dq_180 (a := 0) (b := 92) (fd_r fcX11_scopes (by decide +kernel)) rfl
theorem dX11_scopes_72 : decode cX11_scopes 72 = .ok (.getfield 334, 3) := dq_180 (a := 1) (b := 78) (fd_r fcX11_scopes (by decide +kernel)) rfl
theorem dX11_scopes_75 : decode cX11_scopes 75 = .ok (.ireturn, 1) := dq_172 (fd_r fcX11_scopes (by decide +kernel))
theorem dX11_scopes_76 : decode cX11_scopes 76 = .ok (.aload_n 0, 1) := dq_42 (fd_r fcX11_scopes (by decide +kernel))
theorem dX11_scopes_77 : decode cX11_scopes 77 = .ok (.getfield 92, 3) := dq_180 (a := 0) (b := 92) (fd_r fcX11_scopes (by decide +kernel)) rfl
theorem dX11_scopes_80 : decode cX11_scopes 80 = .ok (.getfield 337, 3) := dq_180 (a := 1) (b := 81) (fd_r fcX11_scopes (by decide +kernel)) rfl
theorem dX11_scopes_83 : decode cX11_scopes 83 = .ok (.ifCond .eq 7, 3) := dq_153 (a := 0) (b := 7) (fd_r fcX11_scopes (by decide +kernel)) rfl
theorem dX11_scopes_86 : decode cX11_scopes 86 = .ok (.iconst 1, 1) := dq_4 (fd_r fcX11_scopes (by decide +kernel))
theorem dX11_scopes_87 : decode cX11_scopes 87 = .ok (.goto 4, 3) := dq_167 (a := 0) (b := 4) (fd_r fcX11_scopes (by decide +kernel)) rfl
theorem dX11_scopes_90 : decode cX11_scopes 90 = .ok (.iconst 0, 1) := dq_3 (fd_r fcX11_scopes (by decide +kernel))
theorem dX11_scopes_91 : decode cX11_scopes 91 = .ok (.ireturn, 1) := dq_172 (fd_r fcX11_scopes (by decide +kernel))
theorem dX11_scopes_92 : decode cX11_scopes 92 = .ok (.aload_n 0, 1) := dq_42 (fd_r fcX11_scopes (by decide +kernel))
theorem dX11_scopes_93 : decode cX11_scopes 93 = .ok (.getfield 92, 3) := dq_180 (a := 0) (b := 92) (fd_r fcX11_scopes (by decide +kernel)) rfl
theorem dX11_scopes_96 : decode cX11_scopes 96 = .ok (.iload_n 3, 1) := dq_29 (fd_r fcX11_scopes (by decide +kernel))
theorem dX11_scopes_97 : decode cX11_scopes 97 = .ok (.invokevirtual 341, 3) := dq_182 (a := 1) (b := 85) (fd_r fcX11_scopes (by decide +kernel)) rfl
theorem dX11_scopes_100 : decode cX11_scopes 100 = .ok (.ireturn, 1) := dq_172 (fd_r fcX11_scopes (by decide +kernel))
theorem dX11_scopes_101 : decode cX11_scopes 101 = .ok (.iconst (-1), 1) := dq_2 (fd_r fcX11_scopes (by decide +kernel))
theorem dX11_scopes_102 : decode cX11_scopes 102 = .ok (.ireturn, 1) := dq_172 (fd_r fcX11_scopes (by decide +kernel))
theorem dX11_safe_0 : decode cX11_safe 0 = .ok (.aload_n 0, 1) := dq_42 (fd_r fcX11_safe (by decide +kernel))
theorem dX11_safe_1 : decode cX11_safe 1 = .ok (.getfield 43, 3) := dq_180 (a := 0) (b := 43) (fd_r fcX11_safe (by decide +kernel)) rfl
theorem dX11_safe_4 : decode cX11_safe 4 = .ok (.iload_n 1, 1) := dq_27 (fd_r fcX11_safe (by decide +kernel))
theorem dX11_safe_5 : decode cX11_safe 5 = .ok (.invokevirtual 344, 3) := dq_182 (a := 1) (b := 88) (fd_r fcX11_safe (by decide +kernel)) rfl
theorem dX11_safe_8 : decode cX11_safe 8 = .ok (.ifCond .eq 14, 3) := dq_153 (a := 0) (b := 14) (fd_r fcX11_safe (by decide +kernel)) rfl
theorem dX11_safe_11 : decode cX11_safe 11 = .ok (.aload_n 0, 1) := dq_42 (fd_r fcX11_safe (by decide +kernel))
theorem dX11_safe_12 : decode cX11_safe 12 = .ok (.getfield 43, 3) := dq_180 (a := 0) (b := 43) (fd_r fcX11_safe (by decide +kernel)) rfl
theorem dX11_safe_15 : decode cX11_safe 15 = .ok (.iload_n 2, 1) := dq_28 (fd_r fcX11_safe (by decide +kernel))
theorem dX11_safe_16 : decode cX11_safe 16 = .ok (.invokevirtual 344, 3) := dq_182 (a := 1) (b := 88) (fd_r fcX11_safe (by decide +kernel)) rfl
theorem dX11_safe_19 : decode cX11_safe 19 = .ok (.ifCond .ne 5, 3) := dq_154 (a := 0) (b := 5) (fd_r fcX11_safe (by decide +kernel)) rfl
theorem dX11_safe_22 : decode cX11_safe 22 = .ok (.iconst (-1), 1) := dq_2 (fd_r fcX11_safe (by decide +kernel))
theorem dX11_safe_23 : decode cX11_safe 23 = .ok (.ireturn, 1) := dq_172 (fd_r fcX11_safe (by decide +kernel))
theorem dX11_safe_24 : decode cX11_safe 24 = .ok (.aload_n 0, 1) := dq_42 (fd_r fcX11_safe (by decide +kernel))
theorem dX11_safe_25 : decode cX11_safe 25 = .ok (.getfield 47, 3) := dq_180 (a := 0) (b := 47) (fd_r fcX11_safe (by decide +kernel)) rfl
theorem dX11_safe_28 : decode cX11_safe 28 = .ok (.aload_n 0, 1) := dq_42 (fd_r fcX11_safe (by decide +kernel))
theorem dX11_safe_29 : decode cX11_safe 29 = .ok (.getfield 43, 3) := dq_180 (a := 0) (b := 43) (fd_r fcX11_safe (by decide +kernel)) rfl
theorem dX11_safe_32 : decode cX11_safe 32 = .ok (.invokevirtual 347, 3) := dq_182 (a := 1) (b := 91) (fd_r fcX11_safe (by decide +kernel)) rfl
theorem dX11_safe_35 : decode cX11_safe 35 = .ok (.aload_n 0, 1) := dq_42 (fd_r fcX11_safe (by decide +kernel))
theorem dX11_safe_36 : decode cX11_safe 36 = .ok (.getfield 47, 3) := dq_180 (a := 0) (b := 47) (fd_r fcX11_safe (by decide +kernel)) rfl
theorem dX11_safe_39 : decode cX11_safe 39 = .ok (.iload_n 1, 1) := dq_27 (fd_r fcX11_safe (by decide +kernel))
theorem dX11_safe_40 : decode cX11_safe 40 = .ok (.iload_n 2, 1) := dq_28 (fd_r fcX11_safe (by decide +kernel))
theorem dX11_safe_41 : decode cX11_safe 41 = .ok (.invokevirtual 350, 3) := dq_182 (a := 1) (b := 94) (fd_r fcX11_safe (by decide +kernel)) rfl
theorem dX11_safe_44 : decode cX11_safe 44 = .ok (.aload_n 0, 1) := dq_42 (fd_r fcX11_safe (by decide +kernel))
theorem dX11_safe_45 : decode cX11_safe 45 = .ok (.invokevirtual 353, 3) := dq_182 (a := 1) (b := 97) (fd_r fcX11_safe (by decide +kernel)) rfl
theorem dX11_safe_48 : decode cX11_safe 48 = .ok (.ifCond .eq 7, 3) := dq_153 (a := 0) (b := 7) (fd_r fcX11_safe (by decide +kernel)) rfl
theorem dX11_safe_51 : decode cX11_safe 51 = .ok (.iconst 1, 1) := dq_4 (fd_r fcX11_safe (by decide +kernel))
theorem dX11_safe_52 : decode cX11_safe 52 = .ok (.goto 4, 3) := dq_167 (a := 0) (b := 4) (fd_r fcX11_safe (by decide +kernel)) rfl
theorem dX11_safe_55 : decode cX11_safe 55 = .ok (.iconst 0, 1) := dq_3 (fd_r fcX11_safe (by decide +kernel))
theorem dX11_safe_56 : decode cX11_safe 56 = .ok (.ireturn, 1) := dq_172 (fd_r fcX11_safe (by decide +kernel))
theorem dX11_trialTakesAlike_0 : decode cX11_trialTakesAlike 0 = .ok (.iconst 0, 1) := dq_3 (fd_r fcX11_trialTakesAlike (by decide +kernel))
theorem dX11_trialTakesAlike_1 : decode cX11_trialTakesAlike 1 = .ok (.istore_n 1, 1) := dq_60 (fd_r fcX11_trialTakesAlike (by decide +kernel))
theorem dX11_trialTakesAlike_2 : decode cX11_trialTakesAlike 2 = .ok (.iload_n 1, 1) := dq_27 (fd_r fcX11_trialTakesAlike (by decide +kernel))
theorem dX11_trialTakesAlike_3 : decode cX11_trialTakesAlike 3 = .ok (.aload_n 0, 1) := dq_42 (fd_r fcX11_trialTakesAlike (by decide +kernel))
theorem dX11_trialTakesAlike_4 : decode cX11_trialTakesAlike 4 = .ok (.getfield 33, 3) := dq_180 (a := 0) (b := 33) (fd_r fcX11_trialTakesAlike (by decide +kernel)) rfl
theorem dX11_trialTakesAlike_7 : decode cX11_trialTakesAlike 7 = .ok (.getfield 231, 3) := dq_180 (a := 0) (b := 231) (fd_r fcX11_trialTakesAlike (by decide +kernel)) rfl
theorem dX11_trialTakesAlike_10 : decode cX11_trialTakesAlike 10 = .ok (.if_icmp .ge 49, 3) := dq_162 (a := 0) (b := 49) (fd_r fcX11_trialTakesAlike (by decide +kernel)) rfl
theorem dX11_trialTakesAlike_13 : decode cX11_trialTakesAlike 13 = .ok (.aload_n 0, 1) := dq_42 (fd_r fcX11_trialTakesAlike (by decide +kernel))
theorem dX11_trialTakesAlike_14 : decode cX11_trialTakesAlike 14 = .ok (.getfield 33, 3) := dq_180 (a := 0) (b := 33) (fd_r fcX11_trialTakesAlike (by decide +kernel)) rfl
theorem dX11_trialTakesAlike_17 : decode cX11_trialTakesAlike 17 = .ok (.getfield 232, 3) := dq_180 (a := 0) (b := 232) (fd_r fcX11_trialTakesAlike (by decide +kernel)) rfl
theorem dX11_trialTakesAlike_20 : decode cX11_trialTakesAlike 20 = .ok (.iload_n 1, 1) := dq_27 (fd_r fcX11_trialTakesAlike (by decide +kernel))
theorem dX11_trialTakesAlike_21 : decode cX11_trialTakesAlike 21 = .ok (.iaload, 1) := dq_46 (fd_r fcX11_trialTakesAlike (by decide +kernel))
theorem dX11_trialTakesAlike_22 : decode cX11_trialTakesAlike 22 = .ok (.istore_n 2, 1) := dq_61 (fd_r fcX11_trialTakesAlike (by decide +kernel))
theorem dX11_trialTakesAlike_23 : decode cX11_trialTakesAlike 23 = .ok (.aload_n 0, 1) := dq_42 (fd_r fcX11_trialTakesAlike (by decide +kernel))
theorem dX11_trialTakesAlike_24 : decode cX11_trialTakesAlike 24 = .ok (.getfield 43, 3) := dq_180 (a := 0) (b := 43) (fd_r fcX11_trialTakesAlike (by decide +kernel)) rfl
theorem dX11_trialTakesAlike_27 : decode cX11_trialTakesAlike 27 = .ok (.aload_n 0, 1) := dq_42 (fd_r fcX11_trialTakesAlike (by decide +kernel))
theorem dX11_trialTakesAlike_28 : decode cX11_trialTakesAlike 28 = .ok (.getfield 71, 3) := dq_180 (a := 0) (b := 71) (fd_r fcX11_trialTakesAlike (by decide +kernel)) rfl
theorem dX11_trialTakesAlike_31 : decode cX11_trialTakesAlike 31 = .ok (.iload_n 2, 1) := dq_28 (fd_r fcX11_trialTakesAlike (by decide +kernel))
theorem dX11_trialTakesAlike_32 : decode cX11_trialTakesAlike 32 = .ok (.invokevirtual 356, 3) := dq_182 (a := 1) (b := 100) (fd_r fcX11_trialTakesAlike (by decide +kernel)) rfl
theorem dX11_trialTakesAlike_35 : decode cX11_trialTakesAlike 35 = .ok (.aload_n 0, 1) := dq_42 (fd_r fcX11_trialTakesAlike (by decide +kernel))
theorem dX11_trialTakesAlike_36 : decode cX11_trialTakesAlike 36 = .ok (.getfield 47, 3) := dq_180 (a := 0) (b := 47) (fd_r fcX11_trialTakesAlike (by decide +kernel)) rfl
theorem dX11_trialTakesAlike_39 : decode cX11_trialTakesAlike 39 = .ok (.aload_n 0, 1) := dq_42 (fd_r fcX11_trialTakesAlike (by decide +kernel))
theorem dX11_trialTakesAlike_40 : decode cX11_trialTakesAlike 40 = .ok (.getfield 71, 3) := dq_180 (a := 0) (b := 71) (fd_r fcX11_trialTakesAlike (by decide +kernel)) rfl
theorem dX11_trialTakesAlike_43 : decode cX11_trialTakesAlike 43 = .ok (.iload_n 2, 1) := dq_28 (fd_r fcX11_trialTakesAlike (by decide +kernel))
theorem dX11_trialTakesAlike_44 : decode cX11_trialTakesAlike 44 = .ok (.invokevirtual 356, 3) := dq_182 (a := 1) (b := 100) (fd_r fcX11_trialTakesAlike (by decide +kernel)) rfl
theorem dX11_trialTakesAlike_47 : decode cX11_trialTakesAlike 47 = .ok (.lcmp, 1) := dq_148 (fd_r fcX11_trialTakesAlike (by decide +kernel))
theorem dX11_trialTakesAlike_48 : decode cX11_trialTakesAlike 48 = .ok (.ifCond .eq 5, 3) := dq_153 (a := 0) (b := 5) (fd_r fcX11_trialTakesAlike (by decide +kernel)) rfl
theorem dX11_trialTakesAlike_51 : decode cX11_trialTakesAlike 51 = .ok (.iconst 0, 1) := dq_3 (fd_r fcX11_trialTakesAlike (by decide +kernel))
theorem dX11_trialTakesAlike_52 : decode cX11_trialTakesAlike 52 = .ok (.ireturn, 1) := dq_172 (fd_r fcX11_trialTakesAlike (by decide +kernel))
theorem dX11_trialTakesAlike_53 : decode cX11_trialTakesAlike 53 = .ok (.iinc 1 1, 3) := dq_132 (a := 1) (b := 1) (fd_r fcX11_trialTakesAlike (by decide +kernel)) rfl
theorem dX11_trialTakesAlike_56 : decode cX11_trialTakesAlike 56 = .ok (.goto (-54), 3) := dq_167 (a := 255) (b := 202) (fd_r fcX11_trialTakesAlike (by decide +kernel)) rfl
theorem dX11_trialTakesAlike_59 : decode cX11_trialTakesAlike 59 = .ok (.iconst 1, 1) := dq_4 (fd_r fcX11_trialTakesAlike (by decide +kernel))
theorem dX11_trialTakesAlike_60 : decode cX11_trialTakesAlike 60 = .ok (.ireturn, 1) := dq_172 (fd_r fcX11_trialTakesAlike (by decide +kernel))
theorem dX11_best_0 : decode cX11_best 0 = .ok (.aload_n 0, 1) := dq_42 (fd_r fcX11_best (by decide +kernel))
theorem dX11_best_1 : decode cX11_best 1 = .ok (.invokevirtual 204, 3) := dq_182 (a := 0) (b := 204) (fd_r fcX11_best (by decide +kernel)) rfl
theorem dX11_best_4 : decode cX11_best 4 = .ok (.ifCond .eq 12, 3) := dq_153 (a := 0) (b := 12) (fd_r fcX11_best (by decide +kernel)) rfl
theorem dX11_best_7 : decode cX11_best 7 = .ok (.iload_n 1, 1) := dq_27 (fd_r fcX11_best (by decide +kernel))
theorem dX11_best_8 : decode cX11_best 8 = .ok (.ifCond .lt 8, 3) := dq_155 (a := 0) (b := 8) (fd_r fcX11_best (by decide +kernel)) rfl
theorem dX11_best_11 : decode cX11_best 11 = .ok (.iload_n 1, 1) := dq_27 (fd_r fcX11_best (by decide +kernel))
theorem dX11_best_12 : decode cX11_best 12 = .ok (.iconst 1, 1) := dq_4 (fd_r fcX11_best (by decide +kernel))
theorem dX11_best_13 : decode cX11_best 13 = .ok (.if_icmp .le 5, 3) := dq_164 (a := 0) (b := 5) (fd_r fcX11_best (by decide +kernel)) rfl
theorem dX11_best_16 : decode cX11_best 16 = .ok (.iconst (-1), 1) := dq_2 (fd_r fcX11_best (by decide +kernel))
theorem dX11_best_17 : decode cX11_best 17 = .ok (.ireturn, 1) := dq_172 (fd_r fcX11_best (by decide +kernel))
theorem dX11_best_18 : decode cX11_best 18 = .ok (.aload_n 0, 1) := dq_42 (fd_r fcX11_best (by decide +kernel))
theorem dX11_best_19 : decode cX11_best 19 = .ok (.aload_n 0, 1) := dq_42 (fd_r fcX11_best (by decide +kernel))
theorem dX11_best_20 : decode cX11_best 20 = .ok (.getfield 43, 3) := dq_180 (a := 0) (b := 43) (fd_r fcX11_best (by decide +kernel)) rfl
theorem dX11_best_23 : decode cX11_best 23 = .ok (.invokevirtual 360, 3) := dq_182 (a := 1) (b := 104) (fd_r fcX11_best (by decide +kernel)) rfl
theorem dX11_best_26 : decode cX11_best 26 = .ok (.istore_n 2, 1) := dq_61 (fd_r fcX11_best (by decide +kernel))
theorem dX11_best_27 : decode cX11_best 27 = .ok (.iconst (-1), 1) := dq_2 (fd_r fcX11_best (by decide +kernel))
theorem dX11_best_28 : decode cX11_best 28 = .ok (.istore_n 3, 1) := dq_62 (fd_r fcX11_best (by decide +kernel))
theorem dX11_best_29 : decode cX11_best 29 = .ok (.iconst 0, 1) := dq_3 (fd_r fcX11_best (by decide +kernel))
theorem dX11_best_30 : decode cX11_best 30 = .ok (.istore 4, 2) := dq_54 (a := 4) (fd_r fcX11_best (by decide +kernel))
theorem dX11_best_32 : decode cX11_best 32 = .ok (.iload 4, 2) := dq_21 (a := 4) (fd_r fcX11_best (by decide +kernel))
theorem dX11_best_34 : decode cX11_best 34 = .ok (.iconst 1, 1) := dq_4 (fd_r fcX11_best (by decide +kernel))
theorem dX11_best_35 : decode cX11_best 35 = .ok (.iadd, 1) := dq_96 (fd_r fcX11_best (by decide +kernel))
theorem dX11_best_36 : decode cX11_best 36 = .ok (.aload_n 0, 1) := dq_42 (fd_r fcX11_best (by decide +kernel))
theorem dX11_best_37 : decode cX11_best 37 = .ok (.getfield 43, 3) := dq_180 (a := 0) (b := 43) (fd_r fcX11_best (by decide +kernel)) rfl
theorem dX11_best_40 : decode cX11_best 40 = .ok (.getfield 176, 3) := dq_180 (a := 0) (b := 176) (fd_r fcX11_best (by decide +kernel)) rfl
theorem dX11_best_43 : decode cX11_best 43 = .ok (.if_icmp .ge 62, 3) := dq_162 (a := 0) (b := 62) (fd_r fcX11_best (by decide +kernel)) rfl
theorem dX11_best_46 : decode cX11_best 46 = .ok (.aload_n 0, 1) := dq_42 (fd_r fcX11_best (by decide +kernel))
theorem dX11_best_47 : decode cX11_best 47 = .ok (.getfield 47, 3) := dq_180 (a := 0) (b := 47) (fd_r fcX11_best (by decide +kernel)) rfl
theorem dX11_best_50 : decode cX11_best 50 = .ok (.aload_n 0, 1) := dq_42 (fd_r fcX11_best (by decide +kernel))
theorem dX11_best_51 : decode cX11_best 51 = .ok (.getfield 43, 3) := dq_180 (a := 0) (b := 43) (fd_r fcX11_best (by decide +kernel)) rfl
theorem dX11_best_54 : decode cX11_best 54 = .ok (.invokevirtual 347, 3) := dq_182 (a := 1) (b := 91) (fd_r fcX11_best (by decide +kernel)) rfl
theorem dX11_best_57 : decode cX11_best 57 = .ok (.aload_n 0, 1) := dq_42 (fd_r fcX11_best (by decide +kernel))
theorem dX11_best_58 : decode cX11_best 58 = .ok (.getfield 47, 3) := dq_180 (a := 0) (b := 47) (fd_r fcX11_best (by decide +kernel)) rfl
theorem dX11_best_61 : decode cX11_best 61 = .ok (.iload 4, 2) := dq_21 (a := 4) (fd_r fcX11_best (by decide +kernel))
theorem dX11_best_63 : decode cX11_best 63 = .ok (.iload 4, 2) := dq_21 (a := 4) (fd_r fcX11_best (by decide +kernel))
theorem dX11_best_65 : decode cX11_best 65 = .ok (.iconst 1, 1) := dq_4 (fd_r fcX11_best (by decide +kernel))
theorem dX11_best_66 : decode cX11_best 66 = .ok (.iadd, 1) := dq_96 (fd_r fcX11_best (by decide +kernel))
theorem dX11_best_67 : decode cX11_best 67 = .ok (.invokevirtual 350, 3) := dq_182 (a := 1) (b := 94) (fd_r fcX11_best (by decide +kernel)) rfl
theorem dX11_best_70 : decode cX11_best 70 = .ok (.aload_n 0, 1) := dq_42 (fd_r fcX11_best (by decide +kernel))
theorem dX11_best_71 : decode cX11_best 71 = .ok (.invokevirtual 353, 3) := dq_182 (a := 1) (b := 97) (fd_r fcX11_best (by decide +kernel)) rfl
theorem dX11_best_74 : decode cX11_best 74 = .ok (.ifCond .eq 25, 3) := dq_153 (a := 0) (b := 25) (fd_r fcX11_best (by decide +kernel)) rfl
theorem dX11_best_77 : decode cX11_best 77 = .ok (.aload_n 0, 1) := dq_42 (fd_r fcX11_best (by decide +kernel))
theorem dX11_best_78 : decode cX11_best 78 = .ok (.aload_n 0, 1) := dq_42 (fd_r fcX11_best (by decide +kernel))
theorem dX11_best_79 : decode cX11_best 79 = .ok (.getfield 47, 3) := dq_180 (a := 0) (b := 47) (fd_r fcX11_best (by decide +kernel)) rfl
theorem dX11_best_82 : decode cX11_best 82 = .ok (.invokevirtual 360, 3) := dq_182 (a := 1) (b := 104) (fd_r fcX11_best (by decide +kernel)) rfl
theorem dX11_best_85 : decode cX11_best 85 = .ok (.istore 5, 2) := dq_54 (a := 5) (fd_r fcX11_best (by decide +kernel))
theorem dX11_best_87 : decode cX11_best 87 = .ok (.iload 5, 2) := dq_21 (a := 5) (fd_r fcX11_best (by decide +kernel))
theorem dX11_best_89 : decode cX11_best 89 = .ok (.iload_n 2, 1) := dq_28 (fd_r fcX11_best (by decide +kernel))
theorem dX11_best_90 : decode cX11_best 90 = .ok (.if_icmp .ge 9, 3) := dq_162 (a := 0) (b := 9) (fd_r fcX11_best (by decide +kernel)) rfl
theorem dX11_best_93 : decode cX11_best 93 = .ok (.iload 5, 2) := dq_21 (a := 5) (fd_r fcX11_best (by decide +kernel))
theorem dX11_best_95 : decode cX11_best 95 = .ok (.istore_n 2, 1) := dq_61 (fd_r fcX11_best (by decide +kernel))
theorem dX11_best_96 : decode cX11_best 96 = .ok (.iload 4, 2) := dq_21 (a := 4) (fd_r fcX11_best (by decide +kernel))
theorem dX11_best_98 : decode cX11_best 98 = .ok (.istore_n 3, 1) := dq_62 (fd_r fcX11_best (by decide +kernel))
theorem dX11_best_99 : decode cX11_best 99 = .ok (.iinc 4 1, 3) := dq_132 (a := 4) (b := 1) (fd_r fcX11_best (by decide +kernel)) rfl
theorem dX11_best_102 : decode cX11_best 102 = .ok (.goto (-70), 3) := dq_167 (a := 255) (b := 186) (fd_r fcX11_best (by decide +kernel)) rfl
theorem dX11_best_105 : decode cX11_best 105 = .ok (.iload_n 1, 1) := dq_27 (fd_r fcX11_best (by decide +kernel))
theorem dX11_best_106 : decode cX11_best 106 = .ok (.ifCond .ne 7, 3) := dq_154 (a := 0) (b := 7) (fd_r fcX11_best (by decide +kernel)) rfl
theorem dX11_best_109 : decode cX11_best 109 = .ok (.iload_n 3, 1) := dq_29 (fd_r fcX11_best (by decide +kernel))
theorem dX11_best_110 : decode cX11_best 110 = .ok (.goto 4, 3) := dq_167 (a := 0) (b := 4) (fd_r fcX11_best (by decide +kernel)) rfl
theorem dX11_best_113 : decode cX11_best 113 = .ok (.iload_n 2, 1) := dq_28 (fd_r fcX11_best (by decide +kernel))
theorem dX11_best_114 : decode cX11_best 114 = .ok (.ireturn, 1) := dq_172 (fd_r fcX11_best (by decide +kernel))
theorem dX11_allTests_0 : decode cX11_allTests 0 = .ok (.aload_n 0, 1) := dq_42 (fd_r fcX11_allTests (by decide +kernel))
theorem dX11_allTests_1 : decode cX11_allTests 1 = .ok (.getfield 92, 3) := dq_180 (a := 0) (b := 92) (fd_r fcX11_allTests (by decide +kernel)) rfl
theorem dX11_allTests_4 : decode cX11_allTests 4 = .ok (.aload_n 1, 1) := dq_43 (fd_r fcX11_allTests (by decide +kernel))
theorem dX11_allTests_5 : decode cX11_allTests 5 = .ok (.aload_n 1, 1) := dq_43 (fd_r fcX11_allTests (by decide +kernel))
theorem dX11_allTests_6 : decode cX11_allTests 6 = .ok (.getfield 180, 3) := dq_180 (a := 0) (b := 180) (fd_r fcX11_allTests (by decide +kernel)) rfl
theorem dX11_allTests_9 : decode cX11_allTests 9 = .ok (.invokevirtual 306, 3) := dq_182 (a := 1) (b := 50) (fd_r fcX11_allTests (by decide +kernel)) rfl
theorem dX11_allTests_12 : decode cX11_allTests 12 = .ok (.invokestatic 320, 3) := dq_184 (a := 1) (b := 64) (fd_r fcX11_allTests (by decide +kernel)) rfl
theorem dX11_allTests_15 : decode cX11_allTests 15 = .ok (.ireturn, 1) := dq_172 (fd_r fcX11_allTests (by decide +kernel))
theorem dX11_see_0 : decode cX11_see 0 = .ok (.aload_n 0, 1) := dq_42 (fd_r fcX11_see (by decide +kernel))
theorem dX11_see_1 : decode cX11_see 1 = .ok (.invokevirtual 204, 3) := dq_182 (a := 0) (b := 204) (fd_r fcX11_see (by decide +kernel)) rfl
theorem dX11_see_4 : decode cX11_see 4 = .ok (.ifCond .eq 29, 3) := dq_153 (a := 0) (b := 29) (fd_r fcX11_see (by decide +kernel)) rfl
theorem dX11_see_7 : decode cX11_see 7 = .ok (.aload_n 0, 1) := dq_42 (fd_r fcX11_see (by decide +kernel))
theorem dX11_see_8 : decode cX11_see 8 = .ok (.getfield 60, 3) := dq_180 (a := 0) (b := 60) (fd_r fcX11_see (by decide +kernel)) rfl
theorem dX11_see_11 : decode cX11_see 11 = .ok (.aload_n 0, 1) := dq_42 (fd_r fcX11_see (by decide +kernel))
theorem dX11_see_12 : decode cX11_see 12 = .ok (.getfield 14, 3) := dq_180 (a := 0) (b := 14) (fd_r fcX11_see (by decide +kernel)) rfl
theorem dX11_see_15 : decode cX11_see 15 = .ok (.aload_n 0, 1) := dq_42 (fd_r fcX11_see (by decide +kernel))
theorem dX11_see_16 : decode cX11_see 16 = .ok (.getfield 71, 3) := dq_180 (a := 0) (b := 71) (fd_r fcX11_see (by decide +kernel)) rfl
theorem dX11_see_19 : decode cX11_see 19 = .ok (.aload_n 0, 1) := dq_42 (fd_r fcX11_see (by decide +kernel))
theorem dX11_see_20 : decode cX11_see 20 = .ok (.getfield 43, 3) := dq_180 (a := 0) (b := 43) (fd_r fcX11_see (by decide +kernel)) rfl
theorem dX11_see_23 : decode cX11_see 23 = .ok (.invokevirtual 364, 3) := dq_182 (a := 1) (b := 108) (fd_r fcX11_see (by decide +kernel)) rfl
theorem dX11_see_26 : decode cX11_see 26 = .ok (.ifCond .eq 7, 3) := dq_153 (a := 0) (b := 7) (fd_r fcX11_see (by decide +kernel)) rfl
theorem dX11_see_29 : decode cX11_see 29 = .ok (.iconst 1, 1) := dq_4 (fd_r fcX11_see (by decide +kernel))
theorem dX11_see_30 : decode cX11_see 30 = .ok (.goto 4, 3) := dq_167 (a := 0) (b := 4) (fd_r fcX11_see (by decide +kernel)) rfl
theorem dX11_see_33 : decode cX11_see 33 = .ok (.iconst 0, 1) := dq_3 (fd_r fcX11_see (by decide +kernel))
theorem dX11_see_34 : decode cX11_see 34 = .ok (.istore_n 1, 1) := dq_60 (fd_r fcX11_see (by decide +kernel))
theorem dX11_see_35 : decode cX11_see 35 = .ok (.aload_n 0, 1) := dq_42 (fd_r fcX11_see (by decide +kernel))
theorem dX11_see_36 : decode cX11_see 36 = .ok (.getfield 14, 3) := dq_180 (a := 0) (b := 14) (fd_r fcX11_see (by decide +kernel)) rfl
theorem dX11_see_39 : decode cX11_see 39 = .ok (.iconst 0, 1) := dq_3 (fd_r fcX11_see (by decide +kernel))
theorem dX11_see_40 : decode cX11_see 40 = .ok (.putfield 100, 3) := dq_181 (a := 0) (b := 100) (fd_r fcX11_see (by decide +kernel)) rfl
theorem dX11_see_43 : decode cX11_see 43 = .ok (.iload_n 1, 1) := dq_27 (fd_r fcX11_see (by decide +kernel))
theorem dX11_see_44 : decode cX11_see 44 = .ok (.ifCond .ne 11, 3) := dq_154 (a := 0) (b := 11) (fd_r fcX11_see (by decide +kernel)) rfl
theorem dX11_see_47 : decode cX11_see 47 = .ok (.aload_n 0, 1) := dq_42 (fd_r fcX11_see (by decide +kernel))
theorem dX11_see_48 : decode cX11_see 48 = .ok (.iconst 5, 1) := dq_8 (fd_r fcX11_see (by decide +kernel))
theorem dX11_see_49 : decode cX11_see 49 = .ok (.invokevirtual 103, 3) := dq_182 (a := 0) (b := 103) (fd_r fcX11_see (by decide +kernel)) rfl
theorem dX11_see_52 : decode cX11_see 52 = .ok (.pop, 1) := dq_87 (fd_r fcX11_see (by decide +kernel))
theorem dX11_see_53 : decode cX11_see 53 = .ok (.iconst (-1), 1) := dq_2 (fd_r fcX11_see (by decide +kernel))
theorem dX11_see_54 : decode cX11_see 54 = .ok (.ireturn, 1) := dq_172 (fd_r fcX11_see (by decide +kernel))
theorem dX11_see_55 : decode cX11_see 55 = .ok (.aload_n 0, 1) := dq_42 (fd_r fcX11_see (by decide +kernel))
theorem dX11_see_56 : decode cX11_see 56 = .ok (.getfield 60, 3) := dq_180 (a := 0) (b := 60) (fd_r fcX11_see (by decide +kernel)) rfl
theorem dX11_see_59 : decode cX11_see 59 = .ok (.getfield 153, 3) := dq_180 (a := 0) (b := 153) (fd_r fcX11_see (by decide +kernel)) rfl
theorem dX11_see_62 : decode cX11_see 62 = .ok (.ireturn, 1) := dq_172 (fd_r fcX11_see (by decide +kernel))
theorem dX11_sets_0 : decode cX11_sets 0 = .ok (.aload_n 0, 1) := dq_42 (fd_r fcX11_sets (by decide +kernel))
theorem dX11_sets_1 : decode cX11_sets 1 = .ok (.invokevirtual 204, 3) := dq_182 (a := 0) (b := 204) (fd_r fcX11_sets (by decide +kernel)) rfl
theorem dX11_sets_4 : decode cX11_sets 4 = .ok (.ifCond .eq 8, 3) := dq_153 (a := 0) (b := 8) (fd_r fcX11_sets (by decide +kernel)) rfl
theorem dX11_sets_7 : decode cX11_sets 7 = .ok (.iload_n 1, 1) := dq_27 (fd_r fcX11_sets (by decide +kernel))
theorem dX11_sets_8 : decode cX11_sets 8 = .ok (.iconst (-1), 1) := dq_2 (fd_r fcX11_sets (by decide +kernel))
theorem dX11_sets_9 : decode cX11_sets 9 = .ok (.if_icmp .ge 5, 3) := dq_162 (a := 0) (b := 5) (fd_r fcX11_sets (by decide +kernel)) rfl
theorem dX11_sets_12 : decode cX11_sets 12 = .ok (.iconst (-1), 1) := dq_2 (fd_r fcX11_sets (by decide +kernel))
theorem dX11_sets_13 : decode cX11_sets 13 = .ok (.ireturn, 1) := dq_172 (fd_r fcX11_sets (by decide +kernel))
theorem dX11_sets_14 : decode cX11_sets 14 = .ok (.aload_n 0, 1) := dq_42 (fd_r fcX11_sets (by decide +kernel))
theorem dX11_sets_15 : decode cX11_sets 15 = .ok (.getfield 60, 3) := dq_180 (a := 0) (b := 60) (fd_r fcX11_sets (by decide +kernel)) rfl
theorem dX11_sets_18 : decode cX11_sets 18 = .ok (.aload_n 0, 1) := dq_42 (fd_r fcX11_sets (by decide +kernel))
theorem dX11_sets_19 : decode cX11_sets 19 = .ok (.getfield 71, 3) := dq_180 (a := 0) (b := 71) (fd_r fcX11_sets (by decide +kernel)) rfl
theorem dX11_sets_22 : decode cX11_sets 22 = .ok (.aload_n 0, 1) := dq_42 (fd_r fcX11_sets (by decide +kernel))
theorem dX11_sets_23 : decode cX11_sets 23 = .ok (.getfield 43, 3) := dq_180 (a := 0) (b := 43) (fd_r fcX11_sets (by decide +kernel)) rfl
theorem dX11_sets_26 : decode cX11_sets 26 = .ok (.invokevirtual 368, 3) := dq_182 (a := 1) (b := 112) (fd_r fcX11_sets (by decide +kernel)) rfl
theorem dX11_sets_29 : decode cX11_sets 29 = .ok (.iload_n 1, 1) := dq_27 (fd_r fcX11_sets (by decide +kernel))
theorem dX11_sets_30 : decode cX11_sets 30 = .ok (.iconst (-1), 1) := dq_2 (fd_r fcX11_sets (by decide +kernel))
theorem dX11_sets_31 : decode cX11_sets 31 = .ok (.if_icmp .ne 11, 3) := dq_160 (a := 0) (b := 11) (fd_r fcX11_sets (by decide +kernel)) rfl
theorem dX11_sets_34 : decode cX11_sets 34 = .ok (.aload_n 0, 1) := dq_42 (fd_r fcX11_sets (by decide +kernel))
theorem dX11_sets_35 : decode cX11_sets 35 = .ok (.getfield 60, 3) := dq_180 (a := 0) (b := 60) (fd_r fcX11_sets (by decide +kernel)) rfl
theorem dX11_sets_38 : decode cX11_sets 38 = .ok (.getfield 372, 3) := dq_180 (a := 1) (b := 116) (fd_r fcX11_sets (by decide +kernel)) rfl
theorem dX11_sets_41 : decode cX11_sets 41 = .ok (.ireturn, 1) := dq_172 (fd_r fcX11_sets (by decide +kernel))
theorem dX11_sets_42 : decode cX11_sets 42 = .ok (.iload_n 1, 1) := dq_27 (fd_r fcX11_sets (by decide +kernel))
theorem dX11_sets_43 : decode cX11_sets 43 = .ok (.aload_n 0, 1) := dq_42 (fd_r fcX11_sets (by decide +kernel))
theorem dX11_sets_44 : decode cX11_sets 44 = .ok (.getfield 60, 3) := dq_180 (a := 0) (b := 60) (fd_r fcX11_sets (by decide +kernel)) rfl
theorem dX11_sets_47 : decode cX11_sets 47 = .ok (.getfield 372, 3) := dq_180 (a := 1) (b := 116) (fd_r fcX11_sets (by decide +kernel)) rfl
theorem dX11_sets_50 : decode cX11_sets 50 = .ok (.if_icmp .ge 15, 3) := dq_162 (a := 0) (b := 15) (fd_r fcX11_sets (by decide +kernel)) rfl
theorem dX11_sets_53 : decode cX11_sets 53 = .ok (.aload_n 0, 1) := dq_42 (fd_r fcX11_sets (by decide +kernel))
theorem dX11_sets_54 : decode cX11_sets 54 = .ok (.getfield 60, 3) := dq_180 (a := 0) (b := 60) (fd_r fcX11_sets (by decide +kernel)) rfl
theorem dX11_sets_57 : decode cX11_sets 57 = .ok (.getfield 375, 3) := dq_180 (a := 1) (b := 119) (fd_r fcX11_sets (by decide +kernel)) rfl
theorem dX11_sets_60 : decode cX11_sets 60 = .ok (.iload_n 1, 1) := dq_27 (fd_r fcX11_sets (by decide +kernel))
theorem dX11_sets_61 : decode cX11_sets 61 = .ok (.iaload, 1) := dq_46 (fd_r fcX11_sets (by decide +kernel))
theorem dX11_sets_62 : decode cX11_sets 62 = .ok (.goto 4, 3) := dq_167 (a := 0) (b := 4) (fd_r fcX11_sets (by decide +kernel)) rfl
theorem dX11_sets_65 : decode cX11_sets 65 = .ok (.iconst (-1), 1) := dq_2 (fd_r fcX11_sets (by decide +kernel))
theorem dX11_sets_66 : decode cX11_sets 66 = .ok (.ireturn, 1) := dq_172 (fd_r fcX11_sets (by decide +kernel))
theorem dX11_tells_0 : decode cX11_tells 0 = .ok (.aload_n 0, 1) := dq_42 (fd_r fcX11_tells (by decide +kernel))
theorem dX11_tells_1 : decode cX11_tells 1 = .ok (.invokevirtual 204, 3) := dq_182 (a := 0) (b := 204) (fd_r fcX11_tells (by decide +kernel)) rfl
theorem dX11_tells_4 : decode cX11_tells 4 = .ok (.ifCond .eq 12, 3) := dq_153 (a := 0) (b := 12) (fd_r fcX11_tells (by decide +kernel)) rfl
theorem dX11_tells_7 : decode cX11_tells 7 = .ok (.iload_n 1, 1) := dq_27 (fd_r fcX11_tells (by decide +kernel))
theorem dX11_tells_8 : decode cX11_tells 8 = .ok (.ifCond .lt 8, 3) := dq_155 (a := 0) (b := 8) (fd_r fcX11_tells (by decide +kernel)) rfl
theorem dX11_tells_11 : decode cX11_tells 11 = .ok (.iload_n 1, 1) := dq_27 (fd_r fcX11_tells (by decide +kernel))
theorem dX11_tells_12 : decode cX11_tells 12 = .ok (.iconst 1, 1) := dq_4 (fd_r fcX11_tells (by decide +kernel))
theorem dX11_tells_13 : decode cX11_tells 13 = .ok (.if_icmp .le 5, 3) := dq_164 (a := 0) (b := 5) (fd_r fcX11_tells (by decide +kernel)) rfl
theorem dX11_tells_16 : decode cX11_tells 16 = .ok (.iconst (-1), 1) := dq_2 (fd_r fcX11_tells (by decide +kernel))
theorem dX11_tells_17 : decode cX11_tells 17 = .ok (.ireturn, 1) := dq_172 (fd_r fcX11_tells (by decide +kernel))
theorem dX11_tells_18 : decode cX11_tells 18 = .ok (.aload_n 0, 1) := dq_42 (fd_r fcX11_tells (by decide +kernel))
theorem dX11_tells_19 : decode cX11_tells 19 = .ok (.getfield 60, 3) := dq_180 (a := 0) (b := 60) (fd_r fcX11_tells (by decide +kernel)) rfl
theorem dX11_tells_22 : decode cX11_tells 22 = .ok (.aload_n 0, 1) := dq_42 (fd_r fcX11_tells (by decide +kernel))
theorem dX11_tells_23 : decode cX11_tells 23 = .ok (.getfield 71, 3) := dq_180 (a := 0) (b := 71) (fd_r fcX11_tells (by decide +kernel)) rfl
theorem dX11_tells_26 : decode cX11_tells 26 = .ok (.aload_n 0, 1) := dq_42 (fd_r fcX11_tells (by decide +kernel))
theorem dX11_tells_27 : decode cX11_tells 27 = .ok (.getfield 43, 3) := dq_180 (a := 0) (b := 43) (fd_r fcX11_tells (by decide +kernel)) rfl
theorem dX11_tells_30 : decode cX11_tells 30 = .ok (.invokevirtual 368, 3) := dq_182 (a := 1) (b := 112) (fd_r fcX11_tells (by decide +kernel)) rfl
theorem dX11_tells_33 : decode cX11_tells 33 = .ok (.aload_n 0, 1) := dq_42 (fd_r fcX11_tells (by decide +kernel))
theorem dX11_tells_34 : decode cX11_tells 34 = .ok (.getfield 60, 3) := dq_180 (a := 0) (b := 60) (fd_r fcX11_tells (by decide +kernel)) rfl
theorem dX11_tells_37 : decode cX11_tells 37 = .ok (.getfield 372, 3) := dq_180 (a := 1) (b := 116) (fd_r fcX11_tells (by decide +kernel)) rfl
theorem dX11_tells_40 : decode cX11_tells 40 = .ok (.ifCond .ne 5, 3) := dq_154 (a := 0) (b := 5) (fd_r fcX11_tells (by decide +kernel)) rfl
theorem dX11_tells_43 : decode cX11_tells 43 = .ok (.iconst (-1), 1) := dq_2 (fd_r fcX11_tells (by decide +kernel))
theorem dX11_tells_44 : decode cX11_tells 44 = .ok (.ireturn, 1) := dq_172 (fd_r fcX11_tells (by decide +kernel))
theorem dX11_tells_45 : decode cX11_tells 45 = .ok (.iconst (-1), 1) := dq_2 (fd_r fcX11_tells (by decide +kernel))
theorem dX11_tells_46 : decode cX11_tells 46 = .ok (.istore_n 2, 1) := dq_61 (fd_r fcX11_tells (by decide +kernel))
theorem dX11_tells_47 : decode cX11_tells 47 = .ok (.iconst 0, 1) := dq_3 (fd_r fcX11_tells (by decide +kernel))
theorem dX11_tells_48 : decode cX11_tells 48 = .ok (.istore_n 3, 1) := dq_62 (fd_r fcX11_tells (by decide +kernel))
theorem dX11_tells_49 : decode cX11_tells 49 = .ok (.aload_n 0, 1) := dq_42 (fd_r fcX11_tells (by decide +kernel))
theorem dX11_tells_50 : decode cX11_tells 50 = .ok (.getfield 24, 3) := dq_180 (a := 0) (b := 24) (fd_r fcX11_tells (by decide +kernel)) rfl
theorem dX11_tells_53 : decode cX11_tells 53 = .ok (.invokevirtual 378, 3) := dq_182 (a := 1) (b := 122) (fd_r fcX11_tells (by decide +kernel)) rfl
theorem dX11_tells_56 : decode cX11_tells 56 = .ok (.iconst 0, 1) := dq_3 (fd_r fcX11_tells (by decide +kernel))
theorem dX11_tells_57 : decode cX11_tells 57 = .ok (.istore 4, 2) := dq_54 (a := 4) (fd_r fcX11_tells (by decide +kernel))
theorem dX11_tells_59 : decode cX11_tells 59 = .ok (.iload 4, 2) := dq_21 (a := 4) (fd_r fcX11_tells (by decide +kernel))
theorem dX11_tells_61 : decode cX11_tells 61 = .ok (.sipush 1000, 3) := dq_17 (a := 3) (b := 232) (fd_r fcX11_tells (by decide +kernel)) rfl
theorem dX11_tells_64 : decode cX11_tells 64 = .ok (.if_icmp .ge 80, 3) := dq_162 (a := 0) (b := 80) (fd_r fcX11_tells (by decide +kernel)) rfl
theorem dX11_tells_67 : decode cX11_tells 67 = .ok (.iload 4, 2) := dq_21 (a := 4) (fd_r fcX11_tells (by decide +kernel))
theorem dX11_tells_69 : decode cX11_tells 69 = .ok (.aload_n 0, 1) := dq_42 (fd_r fcX11_tells (by decide +kernel))
theorem dX11_tells_70 : decode cX11_tells 70 = .ok (.getfield 71, 3) := dq_180 (a := 0) (b := 71) (fd_r fcX11_tells (by decide +kernel)) rfl
theorem dX11_tells_73 : decode cX11_tells 73 = .ok (.getfield 173, 3) := dq_180 (a := 0) (b := 173) (fd_r fcX11_tells (by decide +kernel)) rfl
theorem dX11_tells_76 : decode cX11_tells 76 = .ok (.if_icmp .ge 68, 3) := dq_162 (a := 0) (b := 68) (fd_r fcX11_tells (by decide +kernel)) rfl
theorem dX11_tells_79 : decode cX11_tells 79 = .ok (.aload_n 0, 1) := dq_42 (fd_r fcX11_tells (by decide +kernel))
theorem dX11_tells_80 : decode cX11_tells 80 = .ok (.getfield 71, 3) := dq_180 (a := 0) (b := 71) (fd_r fcX11_tells (by decide +kernel)) rfl
theorem dX11_tells_83 : decode cX11_tells 83 = .ok (.iload 4, 2) := dq_21 (a := 4) (fd_r fcX11_tells (by decide +kernel))
theorem dX11_tells_85 : decode cX11_tells 85 = .ok (.invokevirtual 255, 3) := dq_182 (a := 0) (b := 255) (fd_r fcX11_tells (by decide +kernel)) rfl
theorem dX11_tells_88 : decode cX11_tells 88 = .ok (.istore 5, 2) := dq_54 (a := 5) (fd_r fcX11_tells (by decide +kernel))
theorem dX11_tells_90 : decode cX11_tells 90 = .ok (.aload_n 0, 1) := dq_42 (fd_r fcX11_tells (by decide +kernel))
theorem dX11_tells_91 : decode cX11_tells 91 = .ok (.getfield 24, 3) := dq_180 (a := 0) (b := 24) (fd_r fcX11_tells (by decide +kernel)) rfl
theorem dX11_tells_94 : decode cX11_tells 94 = .ok (.iload 5, 2) := dq_21 (a := 5) (fd_r fcX11_tells (by decide +kernel))
theorem dX11_tells_96 : decode cX11_tells 96 = .ok (.invokevirtual 381, 3) := dq_182 (a := 1) (b := 125) (fd_r fcX11_tells (by decide +kernel)) rfl
theorem dX11_tells_99 : decode cX11_tells 99 = .ok (.ifCond .eq 39, 3) := dq_153 (a := 0) (b := 39) (fd_r fcX11_tells (by decide +kernel)) rfl
theorem dX11_tells_102 : decode cX11_tells 102 = .ok (.aload_n 0, 1) := dq_42 (fd_r fcX11_tells (by decide +kernel))
theorem dX11_tells_103 : decode cX11_tells 103 = .ok (.getfield 60, 3) := dq_180 (a := 0) (b := 60) (fd_r fcX11_tells (by decide +kernel)) rfl
theorem dX11_tells_106 : decode cX11_tells 106 = .ok (.aload_n 0, 1) := dq_42 (fd_r fcX11_tells (by decide +kernel))
theorem dX11_tells_107 : decode cX11_tells 107 = .ok (.getfield 71, 3) := dq_180 (a := 0) (b := 71) (fd_r fcX11_tells (by decide +kernel)) rfl
theorem dX11_tells_110 : decode cX11_tells 110 = .ok (.aload_n 0, 1) := dq_42 (fd_r fcX11_tells (by decide +kernel))
theorem dX11_tells_111 : decode cX11_tells 111 = .ok (.getfield 43, 3) := dq_180 (a := 0) (b := 43) (fd_r fcX11_tells (by decide +kernel)) rfl
theorem dX11_tells_114 : decode cX11_tells 114 = .ok (.iload 5, 2) := dq_21 (a := 5) (fd_r fcX11_tells (by decide +kernel))
theorem dX11_tells_116 : decode cX11_tells 116 = .ok (.invokevirtual 384, 3) := dq_182 (a := 1) (b := 128) (fd_r fcX11_tells (by decide +kernel)) rfl
theorem dX11_tells_119 : decode cX11_tells 119 = .ok (.istore 6, 2) := dq_54 (a := 6) (fd_r fcX11_tells (by decide +kernel))
theorem dX11_tells_121 : decode cX11_tells 121 = .ok (.iload_n 2, 1) := dq_28 (fd_r fcX11_tells (by decide +kernel))
theorem dX11_tells_122 : decode cX11_tells 122 = .ok (.iconst (-1), 1) := dq_2 (fd_r fcX11_tells (by decide +kernel))
theorem dX11_tells_123 : decode cX11_tells 123 = .ok (.if_icmp .eq 9, 3) := dq_159 (a := 0) (b := 9) (fd_r fcX11_tells (by decide +kernel)) rfl
theorem dX11_tells_126 : decode cX11_tells 126 = .ok (.iload 6, 2) := dq_21 (a := 6) (fd_r fcX11_tells (by decide +kernel))
theorem dX11_tells_128 : decode cX11_tells 128 = .ok (.iload_n 3, 1) := dq_29 (fd_r fcX11_tells (by decide +kernel))
theorem dX11_tells_129 : decode cX11_tells 129 = .ok (.if_icmp .ge 9, 3) := dq_162 (a := 0) (b := 9) (fd_r fcX11_tells (by decide +kernel)) rfl
theorem dX11_tells_132 : decode cX11_tells 132 = .ok (.iload 4, 2) := dq_21 (a := 4) (fd_r fcX11_tells (by decide +kernel))
theorem dX11_tells_134 : decode cX11_tells 134 = .ok (.istore_n 2, 1) := dq_61 (fd_r fcX11_tells (by decide +kernel))
theorem dX11_tells_135 : decode cX11_tells 135 = .ok (.iload 6, 2) := dq_21 (a := 6) (fd_r fcX11_tells (by decide +kernel))
theorem dX11_tells_137 : decode cX11_tells 137 = .ok (.istore_n 3, 1) := dq_62 (fd_r fcX11_tells (by decide +kernel))
theorem dX11_tells_138 : decode cX11_tells 138 = .ok (.iinc 4 1, 3) := dq_132 (a := 4) (b := 1) (fd_r fcX11_tells (by decide +kernel)) rfl
theorem dX11_tells_141 : decode cX11_tells 141 = .ok (.goto (-82), 3) := dq_167 (a := 255) (b := 174) (fd_r fcX11_tells (by decide +kernel)) rfl
theorem dX11_tells_144 : decode cX11_tells 144 = .ok (.iload_n 1, 1) := dq_27 (fd_r fcX11_tells (by decide +kernel))
theorem dX11_tells_145 : decode cX11_tells 145 = .ok (.ifCond .ne 7, 3) := dq_154 (a := 0) (b := 7) (fd_r fcX11_tells (by decide +kernel)) rfl
theorem dX11_tells_148 : decode cX11_tells 148 = .ok (.iload_n 2, 1) := dq_28 (fd_r fcX11_tells (by decide +kernel))
theorem dX11_tells_149 : decode cX11_tells 149 = .ok (.goto 4, 3) := dq_167 (a := 0) (b := 4) (fd_r fcX11_tells (by decide +kernel)) rfl
theorem dX11_tells_152 : decode cX11_tells 152 = .ok (.iload_n 3, 1) := dq_29 (fd_r fcX11_tells (by decide +kernel))
theorem dX11_tells_153 : decode cX11_tells 153 = .ok (.ireturn, 1) := dq_172 (fd_r fcX11_tells (by decide +kernel))
theorem dX11_run_0 : decode cX11_run 0 = .ok (.aload_n 0, 1) := dq_42 (fd_r fcX11_run (by decide +kernel))
theorem dX11_run_1 : decode cX11_run 1 = .ok (.getfield 71, 3) := dq_180 (a := 0) (b := 71) (fd_r fcX11_run (by decide +kernel)) rfl
theorem dX11_run_4 : decode cX11_run 4 = .ok (.iload_n 1, 1) := dq_27 (fd_r fcX11_run (by decide +kernel))
theorem dX11_run_5 : decode cX11_run 5 = .ok (.invokevirtual 258, 3) := dq_182 (a := 1) (b := 2) (fd_r fcX11_run (by decide +kernel)) rfl
theorem dX11_run_8 : decode cX11_run 8 = .ok (.ifCond .ne 11, 3) := dq_154 (a := 0) (b := 11) (fd_r fcX11_run (by decide +kernel)) rfl
theorem dX11_run_11 : decode cX11_run 11 = .ok (.aload_n 0, 1) := dq_42 (fd_r fcX11_run (by decide +kernel))
theorem dX11_run_12 : decode cX11_run 12 = .ok (.iconst 2, 1) := dq_5 (fd_r fcX11_run (by decide +kernel))
theorem dX11_run_13 : decode cX11_run 13 = .ok (.invokevirtual 103, 3) := dq_182 (a := 0) (b := 103) (fd_r fcX11_run (by decide +kernel)) rfl
theorem dX11_run_16 : decode cX11_run 16 = .ok (.pop, 1) := dq_87 (fd_r fcX11_run (by decide +kernel))
theorem dX11_run_17 : decode cX11_run 17 = .ok (.iconst (-1), 1) := dq_2 (fd_r fcX11_run (by decide +kernel))
theorem dX11_run_18 : decode cX11_run 18 = .ok (.ireturn, 1) := dq_172 (fd_r fcX11_run (by decide +kernel))
theorem dX11_run_19 : decode cX11_run 19 = .ok (.aload_n 0, 1) := dq_42 (fd_r fcX11_run (by decide +kernel))
theorem dX11_run_20 : decode cX11_run 20 = .ok (.invokevirtual 388, 3) := dq_182 (a := 1) (b := 132) (fd_r fcX11_run (by decide +kernel)) rfl
theorem dX11_run_23 : decode cX11_run 23 = .ok (.aload_n 0, 1) := dq_42 (fd_r fcX11_run (by decide +kernel))
theorem dX11_run_24 : decode cX11_run 24 = .ok (.iload_n 1, 1) := dq_27 (fd_r fcX11_run (by decide +kernel))
theorem dX11_run_25 : decode cX11_run 25 = .ok (.invokevirtual 391, 3) := dq_182 (a := 1) (b := 135) (fd_r fcX11_run (by decide +kernel)) rfl
theorem dX11_run_28 : decode cX11_run 28 = .ok (.ireturn, 1) := dq_172 (fd_r fcX11_run (by decide +kernel))
theorem dX11_runRow_0 : decode cX11_runRow 0 = .ok (.aload_n 0, 1) := dq_42 (fd_r fcX11_runRow (by decide +kernel))
theorem dX11_runRow_1 : decode cX11_runRow 1 = .ok (.getfield 43, 3) := dq_180 (a := 0) (b := 43) (fd_r fcX11_runRow (by decide +kernel)) rfl
theorem dX11_runRow_4 : decode cX11_runRow 4 = .ok (.aload_n 0, 1) := dq_42 (fd_r fcX11_runRow (by decide +kernel))
theorem dX11_runRow_5 : decode cX11_runRow 5 = .ok (.getfield 71, 3) := dq_180 (a := 0) (b := 71) (fd_r fcX11_runRow (by decide +kernel)) rfl
theorem dX11_runRow_8 : decode cX11_runRow 8 = .ok (.aload_n 0, 1) := dq_42 (fd_r fcX11_runRow (by decide +kernel))
theorem dX11_runRow_9 : decode cX11_runRow 9 = .ok (.getfield 71, 3) := dq_180 (a := 0) (b := 71) (fd_r fcX11_runRow (by decide +kernel)) rfl
theorem dX11_runRow_12 : decode cX11_runRow 12 = .ok (.iload_n 1, 1) := dq_27 (fd_r fcX11_runRow (by decide +kernel))
theorem dX11_runRow_13 : decode cX11_runRow 13 = .ok (.invokevirtual 255, 3) := dq_182 (a := 0) (b := 255) (fd_r fcX11_runRow (by decide +kernel)) rfl
theorem dX11_runRow_16 : decode cX11_runRow 16 = .ok (.aload_n 0, 1) := dq_42 (fd_r fcX11_runRow (by decide +kernel))
theorem dX11_runRow_17 : decode cX11_runRow 17 = .ok (.getfield 43, 3) := dq_180 (a := 0) (b := 43) (fd_r fcX11_runRow (by decide +kernel)) rfl
theorem dX11_runRow_20 : decode cX11_runRow 20 = .ok (.getfield 177, 3) := dq_180 (a := 0) (b := 177) (fd_r fcX11_runRow (by decide +kernel)) rfl
theorem dX11_runRow_23 : decode cX11_runRow 23 = .ok (.invokevirtual 241, 3) := dq_182 (a := 0) (b := 241) (fd_r fcX11_runRow (by decide +kernel)) rfl
theorem dX11_runRow_26 : decode cX11_runRow 26 = .ok (.istore_n 2, 1) := dq_61 (fd_r fcX11_runRow (by decide +kernel))
theorem dX11_runRow_27 : decode cX11_runRow 27 = .ok (.aload_n 0, 1) := dq_42 (fd_r fcX11_runRow (by decide +kernel))
theorem dX11_runRow_28 : decode cX11_runRow 28 = .ok (.getfield 53, 3) := dq_180 (a := 0) (b := 53) (fd_r fcX11_runRow (by decide +kernel)) rfl
theorem dX11_runRow_31 : decode cX11_runRow 31 = .ok (.iload_n 1, 1) := dq_27 (fd_r fcX11_runRow (by decide +kernel))
theorem dX11_runRow_32 : decode cX11_runRow 32 = .ok (.aload_n 0, 1) := dq_42 (fd_r fcX11_runRow (by decide +kernel))
theorem dX11_runRow_33 : decode cX11_runRow 33 = .ok (.getfield 43, 3) := dq_180 (a := 0) (b := 43) (fd_r fcX11_runRow (by decide +kernel)) rfl
theorem dX11_runRow_36 : decode cX11_runRow 36 = .ok (.iload_n 2, 1) := dq_28 (fd_r fcX11_runRow (by decide +kernel))
theorem dX11_runRow_37 : decode cX11_runRow 37 = .ok (.invokevirtual 212, 3) := dq_182 (a := 0) (b := 212) (fd_r fcX11_runRow (by decide +kernel)) rfl
theorem dX11_runRow_40 : decode cX11_runRow 40 = .ok (.aload_n 0, 1) := dq_42 (fd_r fcX11_runRow (by decide +kernel))
theorem dX11_runRow_41 : decode cX11_runRow 41 = .ok (.getfield 92, 3) := dq_180 (a := 0) (b := 92) (fd_r fcX11_runRow (by decide +kernel)) rfl
theorem dX11_runRow_44 : decode cX11_runRow 44 = .ok (.aload_n 0, 1) := dq_42 (fd_r fcX11_runRow (by decide +kernel))
theorem dX11_runRow_45 : decode cX11_runRow 45 = .ok (.getfield 43, 3) := dq_180 (a := 0) (b := 43) (fd_r fcX11_runRow (by decide +kernel)) rfl
theorem dX11_runRow_48 : decode cX11_runRow 48 = .ok (.iload_n 1, 1) := dq_27 (fd_r fcX11_runRow (by decide +kernel))
theorem dX11_runRow_49 : decode cX11_runRow 49 = .ok (.invokevirtual 394, 3) := dq_182 (a := 1) (b := 138) (fd_r fcX11_runRow (by decide +kernel)) rfl
theorem dX11_runRow_52 : decode cX11_runRow 52 = .ok (.invokevirtual 397, 3) := dq_182 (a := 1) (b := 141) (fd_r fcX11_runRow (by decide +kernel)) rfl
theorem dX11_runRow_55 : decode cX11_runRow 55 = .ok (.iload_n 2, 1) := dq_28 (fd_r fcX11_runRow (by decide +kernel))
theorem dX11_runRow_56 : decode cX11_runRow 56 = .ok (.ireturn, 1) := dq_172 (fd_r fcX11_runRow (by decide +kernel))
theorem dX11_chance_0 : decode cX11_chance 0 = .ok (.aload_n 0, 1) := dq_42 (fd_r fcX11_chance (by decide +kernel))
theorem dX11_chance_1 : decode cX11_chance 1 = .ok (.invokevirtual 204, 3) := dq_182 (a := 0) (b := 204) (fd_r fcX11_chance (by decide +kernel)) rfl
theorem dX11_chance_4 : decode cX11_chance 4 = .ok (.ifCond .eq 14, 3) := dq_153 (a := 0) (b := 14) (fd_r fcX11_chance (by decide +kernel)) rfl
theorem dX11_chance_7 : decode cX11_chance 7 = .ok (.iload_n 1, 1) := dq_27 (fd_r fcX11_chance (by decide +kernel))
theorem dX11_chance_8 : decode cX11_chance 8 = .ok (.iconst 1, 1) := dq_4 (fd_r fcX11_chance (by decide +kernel))
theorem dX11_chance_9 : decode cX11_chance 9 = .ok (.if_icmp .lt 9, 3) := dq_161 (a := 0) (b := 9) (fd_r fcX11_chance (by decide +kernel)) rfl
theorem dX11_chance_12 : decode cX11_chance 12 = .ok (.iload_n 1, 1) := dq_27 (fd_r fcX11_chance (by decide +kernel))
theorem dX11_chance_13 : decode cX11_chance 13 = .ok (.bipush 40, 2) := dq_16 (a := 40) (fd_r fcX11_chance (by decide +kernel)) rfl
theorem dX11_chance_15 : decode cX11_chance 15 = .ok (.if_icmp .le 11, 3) := dq_164 (a := 0) (b := 11) (fd_r fcX11_chance (by decide +kernel)) rfl
theorem dX11_chance_18 : decode cX11_chance 18 = .ok (.aload_n 0, 1) := dq_42 (fd_r fcX11_chance (by decide +kernel))
theorem dX11_chance_19 : decode cX11_chance 19 = .ok (.iconst 2, 1) := dq_5 (fd_r fcX11_chance (by decide +kernel))
theorem dX11_chance_20 : decode cX11_chance 20 = .ok (.invokevirtual 103, 3) := dq_182 (a := 0) (b := 103) (fd_r fcX11_chance (by decide +kernel)) rfl
theorem dX11_chance_23 : decode cX11_chance 23 = .ok (.pop, 1) := dq_87 (fd_r fcX11_chance (by decide +kernel))
theorem dX11_chance_24 : decode cX11_chance 24 = .ok (.iconst (-1), 1) := dq_2 (fd_r fcX11_chance (by decide +kernel))
theorem dX11_chance_25 : decode cX11_chance 25 = .ok (.ireturn, 1) := dq_172 (fd_r fcX11_chance (by decide +kernel))
theorem dX11_chance_26 : decode cX11_chance 26 = .ok (.aload_n 0, 1) := dq_42 (fd_r fcX11_chance (by decide +kernel))
theorem dX11_chance_27 : decode cX11_chance 27 = .ok (.invokevirtual 388, 3) := dq_182 (a := 1) (b := 132) (fd_r fcX11_chance (by decide +kernel)) rfl
theorem dX11_chance_30 : decode cX11_chance 30 = .ok (.iconst 0, 1) := dq_3 (fd_r fcX11_chance (by decide +kernel))
theorem dX11_chance_31 : decode cX11_chance 31 = .ok (.istore_n 2, 1) := dq_61 (fd_r fcX11_chance (by decide +kernel))
theorem dX11_chance_32 : decode cX11_chance 32 = .ok (.iconst 0, 1) := dq_3 (fd_r fcX11_chance (by decide +kernel))
theorem dX11_chance_33 : decode cX11_chance 33 = .ok (.istore_n 3, 1) := dq_62 (fd_r fcX11_chance (by decide +kernel))
theorem dX11_chance_34 : decode cX11_chance 34 = .ok (.iload_n 3, 1) := dq_29 (fd_r fcX11_chance (by decide +kernel))
theorem dX11_chance_35 : decode cX11_chance 35 = .ok (.iload_n 1, 1) := dq_27 (fd_r fcX11_chance (by decide +kernel))
theorem dX11_chance_36 : decode cX11_chance 36 = .ok (.if_icmp .ge 31, 3) := dq_162 (a := 0) (b := 31) (fd_r fcX11_chance (by decide +kernel)) rfl
theorem dX11_chance_39 : decode cX11_chance 39 = .ok (.aload_n 0, 1) := dq_42 (fd_r fcX11_chance (by decide +kernel))
theorem dX11_chance_40 : decode cX11_chance 40 = .ok (.aload_n 0, 1) := dq_42 (fd_r fcX11_chance (by decide +kernel))
theorem dX11_chance_41 : decode cX11_chance 41 = .ok (.aload_n 0, 1) := dq_42 (fd_r fcX11_chance (by decide +kernel))
theorem dX11_chance_42 : decode cX11_chance 42 = .ok (.getfield 71, 3) := dq_180 (a := 0) (b := 71) (fd_r fcX11_chance (by decide +kernel)) rfl
theorem dX11_chance_45 : decode cX11_chance 45 = .ok (.getfield 173, 3) := dq_180 (a := 0) (b := 173) (fd_r fcX11_chance (by decide +kernel)) rfl
theorem dX11_chance_48 : decode cX11_chance 48 = .ok (.invokevirtual 401, 3) := dq_182 (a := 1) (b := 145) (fd_r fcX11_chance (by decide +kernel)) rfl
theorem dX11_chance_51 : decode cX11_chance 51 = .ok (.invokevirtual 391, 3) := dq_182 (a := 1) (b := 135) (fd_r fcX11_chance (by decide +kernel)) rfl
theorem dX11_chance_54 : decode cX11_chance 54 = .ok (.iconst (-1), 1) := dq_2 (fd_r fcX11_chance (by decide +kernel))
theorem dX11_chance_55 : decode cX11_chance 55 = .ok (.if_icmp .ne 6, 3) := dq_160 (a := 0) (b := 6) (fd_r fcX11_chance (by decide +kernel)) rfl
theorem dX11_chance_58 : decode cX11_chance 58 = .ok (.iinc 2 1, 3) := dq_132 (a := 2) (b := 1) (fd_r fcX11_chance (by decide +kernel)) rfl
theorem dX11_chance_61 : decode cX11_chance 61 = .ok (.iinc 3 1, 3) := dq_132 (a := 3) (b := 1) (fd_r fcX11_chance (by decide +kernel)) rfl
theorem dX11_chance_64 : decode cX11_chance 64 = .ok (.goto (-30), 3) := dq_167 (a := 255) (b := 226) (fd_r fcX11_chance (by decide +kernel)) rfl
theorem dX11_chance_67 : decode cX11_chance 67 = .ok (.iload_n 2, 1) := dq_28 (fd_r fcX11_chance (by decide +kernel))
theorem dX11_chance_68 : decode cX11_chance 68 = .ok (.ireturn, 1) := dq_172 (fd_r fcX11_chance (by decide +kernel))
theorem dX11_draw_0 : decode cX11_draw 0 = .ok (.aload_n 0, 1) := dq_42 (fd_r fcX11_draw (by decide +kernel))
theorem dX11_draw_1 : decode cX11_draw 1 = .ok (.ldc_w 404, 3) := dq_19 (a := 1) (b := 148) (fd_r fcX11_draw (by decide +kernel)) rfl
theorem dX11_draw_4 : decode cX11_draw 4 = .ok (.aload_n 0, 1) := dq_42 (fd_r fcX11_draw (by decide +kernel))
theorem dX11_draw_5 : decode cX11_draw 5 = .ok (.getfield 96, 3) := dq_180 (a := 0) (b := 96) (fd_r fcX11_draw (by decide +kernel)) rfl
theorem dX11_draw_8 : decode cX11_draw 8 = .ok (.imul, 1) := dq_104 (fd_r fcX11_draw (by decide +kernel))
theorem dX11_draw_9 : decode cX11_draw 9 = .ok (.sipush 12345, 3) := dq_17 (a := 48) (b := 57) (fd_r fcX11_draw (by decide +kernel)) rfl
theorem dX11_draw_12 : decode cX11_draw 12 = .ok (.iadd, 1) := dq_96 (fd_r fcX11_draw (by decide +kernel))
theorem dX11_draw_13 : decode cX11_draw 13 = .ok (.ldc_w 405, 3) := dq_19 (a := 1) (b := 149) (fd_r fcX11_draw (by decide +kernel)) rfl
theorem dX11_draw_16 : decode cX11_draw 16 = .ok (.iand, 1) := dq_126 (fd_r fcX11_draw (by decide +kernel))
theorem dX11_draw_17 : decode cX11_draw 17 = .ok (.putfield 96, 3) := dq_181 (a := 0) (b := 96) (fd_r fcX11_draw (by decide +kernel)) rfl
theorem dX11_draw_20 : decode cX11_draw 20 = .ok (.iload_n 1, 1) := dq_27 (fd_r fcX11_draw (by decide +kernel))
theorem dX11_draw_21 : decode cX11_draw 21 = .ok (.ifCond .le 15, 3) := dq_158 (a := 0) (b := 15) (fd_r fcX11_draw (by decide +kernel)) rfl
theorem dX11_draw_24 : decode cX11_draw 24 = .ok (.aload_n 0, 1) := dq_42 (fd_r fcX11_draw (by decide +kernel))
theorem dX11_draw_25 : decode cX11_draw 25 = .ok (.getfield 96, 3) := dq_180 (a := 0) (b := 96) (fd_r fcX11_draw (by decide +kernel)) rfl
theorem dX11_draw_28 : decode cX11_draw 28 = .ok (.bipush 6, 2) := dq_16 (a := 6) (fd_r fcX11_draw (by decide +kernel)) rfl
theorem dX11_draw_30 : decode cX11_draw 30 = .ok (.ishr, 1) := dq_122 (fd_r fcX11_draw (by decide +kernel))
theorem dX11_draw_31 : decode cX11_draw 31 = .ok (.iload_n 1, 1) := dq_27 (fd_r fcX11_draw (by decide +kernel))
theorem dX11_draw_32 : decode cX11_draw 32 = .ok (.irem, 1) := dq_112 (fd_r fcX11_draw (by decide +kernel))
theorem dX11_draw_33 : decode cX11_draw 33 = .ok (.goto 4, 3) := dq_167 (a := 0) (b := 4) (fd_r fcX11_draw (by decide +kernel)) rfl
theorem dX11_draw_36 : decode cX11_draw 36 = .ok (.iconst 0, 1) := dq_3 (fd_r fcX11_draw (by decide +kernel))
theorem dX11_draw_37 : decode cX11_draw 37 = .ok (.ireturn, 1) := dq_172 (fd_r fcX11_draw (by decide +kernel))
theorem dX11_swap_0 : decode cX11_swap 0 = .ok (.iload_n 1, 1) := dq_27 (fd_r fcX11_swap (by decide +kernel))
theorem dX11_swap_1 : decode cX11_swap 1 = .ok (.iload_n 2, 1) := dq_28 (fd_r fcX11_swap (by decide +kernel))
theorem dX11_swap_2 : decode cX11_swap 2 = .ok (.if_icmp .eq 25, 3) := dq_159 (a := 0) (b := 25) (fd_r fcX11_swap (by decide +kernel)) rfl
theorem dX11_swap_5 : decode cX11_swap 5 = .ok (.aload_n 0, 1) := dq_42 (fd_r fcX11_swap (by decide +kernel))
theorem dX11_swap_6 : decode cX11_swap 6 = .ok (.getfield 43, 3) := dq_180 (a := 0) (b := 43) (fd_r fcX11_swap (by decide +kernel)) rfl
theorem dX11_swap_9 : decode cX11_swap 9 = .ok (.iload_n 1, 1) := dq_27 (fd_r fcX11_swap (by decide +kernel))
theorem dX11_swap_10 : decode cX11_swap 10 = .ok (.invokevirtual 344, 3) := dq_182 (a := 1) (b := 88) (fd_r fcX11_swap (by decide +kernel)) rfl
theorem dX11_swap_13 : decode cX11_swap 13 = .ok (.ifCond .eq 14, 3) := dq_153 (a := 0) (b := 14) (fd_r fcX11_swap (by decide +kernel)) rfl
theorem dX11_swap_16 : decode cX11_swap 16 = .ok (.aload_n 0, 1) := dq_42 (fd_r fcX11_swap (by decide +kernel))
theorem dX11_swap_17 : decode cX11_swap 17 = .ok (.getfield 43, 3) := dq_180 (a := 0) (b := 43) (fd_r fcX11_swap (by decide +kernel)) rfl
theorem dX11_swap_20 : decode cX11_swap 20 = .ok (.iload_n 2, 1) := dq_28 (fd_r fcX11_swap (by decide +kernel))
theorem dX11_swap_21 : decode cX11_swap 21 = .ok (.invokevirtual 344, 3) := dq_182 (a := 1) (b := 88) (fd_r fcX11_swap (by decide +kernel)) rfl
theorem dX11_swap_24 : decode cX11_swap 24 = .ok (.ifCond .ne 9, 3) := dq_154 (a := 0) (b := 9) (fd_r fcX11_swap (by decide +kernel)) rfl
theorem dX11_swap_27 : decode cX11_swap 27 = .ok (.aload_n 0, 1) := dq_42 (fd_r fcX11_swap (by decide +kernel))
theorem dX11_swap_28 : decode cX11_swap 28 = .ok (.iconst 3, 1) := dq_6 (fd_r fcX11_swap (by decide +kernel))
theorem dX11_swap_29 : decode cX11_swap 29 = .ok (.invokevirtual 103, 3) := dq_182 (a := 0) (b := 103) (fd_r fcX11_swap (by decide +kernel)) rfl
theorem dX11_swap_32 : decode cX11_swap 32 = .ok (.ireturn, 1) := dq_172 (fd_r fcX11_swap (by decide +kernel))
theorem dX11_swap_33 : decode cX11_swap 33 = .ok (.aload_n 0, 1) := dq_42 (fd_r fcX11_swap (by decide +kernel))
theorem dX11_swap_34 : decode cX11_swap 34 = .ok (.invokevirtual 388, 3) := dq_182 (a := 1) (b := 132) (fd_r fcX11_swap (by decide +kernel)) rfl
theorem dX11_swap_37 : decode cX11_swap 37 = .ok (.aload_n 0, 1) := dq_42 (fd_r fcX11_swap (by decide +kernel))
theorem dX11_swap_38 : decode cX11_swap 38 = .ok (.getfield 43, 3) := dq_180 (a := 0) (b := 43) (fd_r fcX11_swap (by decide +kernel)) rfl
theorem dX11_swap_41 : decode cX11_swap 41 = .ok (.iload_n 1, 1) := dq_27 (fd_r fcX11_swap (by decide +kernel))
theorem dX11_swap_42 : decode cX11_swap 42 = .ok (.iload_n 2, 1) := dq_28 (fd_r fcX11_swap (by decide +kernel))
theorem dX11_swap_43 : decode cX11_swap 43 = .ok (.invokevirtual 350, 3) := dq_182 (a := 1) (b := 94) (fd_r fcX11_swap (by decide +kernel)) rfl
theorem dX11_swap_46 : decode cX11_swap 46 = .ok (.iconst 1, 1) := dq_4 (fd_r fcX11_swap (by decide +kernel))
theorem dX11_swap_47 : decode cX11_swap 47 = .ok (.ireturn, 1) := dq_172 (fd_r fcX11_swap (by decide +kernel))
theorem dX11_drop_0 : decode cX11_drop 0 = .ok (.aload_n 0, 1) := dq_42 (fd_r fcX11_drop (by decide +kernel))
theorem dX11_drop_1 : decode cX11_drop 1 = .ok (.getfield 43, 3) := dq_180 (a := 0) (b := 43) (fd_r fcX11_drop (by decide +kernel)) rfl
theorem dX11_drop_4 : decode cX11_drop 4 = .ok (.iload_n 1, 1) := dq_27 (fd_r fcX11_drop (by decide +kernel))
theorem dX11_drop_5 : decode cX11_drop 5 = .ok (.invokevirtual 344, 3) := dq_182 (a := 1) (b := 88) (fd_r fcX11_drop (by decide +kernel)) rfl
theorem dX11_drop_8 : decode cX11_drop 8 = .ok (.ifCond .ne 9, 3) := dq_154 (a := 0) (b := 9) (fd_r fcX11_drop (by decide +kernel)) rfl
end
section
theorem dX11_drop_11 : decode cX11_drop 11 = .ok (.aload_n 0, 1) := dq_42 (fd_r fcX11_drop (by decide +kernel))
theorem dX11_drop_12 : decode cX11_drop 12 = .ok (.iconst 3, 1) := dq_6 (fd_r fcX11_drop (by decide +kernel))
theorem dX11_drop_13 : decode cX11_drop 13 = .ok (.invokevirtual 103, 3) := dq_182 (a := 0) (b := 103) (fd_r fcX11_drop (by decide +kernel)) rfl
theorem dX11_drop_16 : decode cX11_drop 16 = .ok (.ireturn, 1) := dq_172 (fd_r fcX11_drop (by decide +kernel))
theorem dX11_drop_17 : decode cX11_drop 17 = .ok (.aload_n 0, 1) := dq_42 (fd_r fcX11_drop (by decide +kernel))
theorem dX11_drop_18 : decode cX11_drop 18 = .ok (.invokevirtual 388, 3) := dq_182 (a := 1) (b := 132) (fd_r fcX11_drop (by decide +kernel)) rfl
theorem dX11_drop_21 : decode cX11_drop 21 = .ok (.aload_n 0, 1) := dq_42 (fd_r fcX11_drop (by decide +kernel))
theorem dX11_drop_22 : decode cX11_drop 22 = .ok (.getfield 43, 3) := dq_180 (a := 0) (b := 43) (fd_r fcX11_drop (by decide +kernel)) rfl
theorem dX11_drop_25 : decode cX11_drop 25 = .ok (.iload_n 1, 1) := dq_27 (fd_r fcX11_drop (by decide +kernel))
theorem dX11_drop_26 : decode cX11_drop 26 = .ok (.invokevirtual 406, 3) := dq_182 (a := 1) (b := 150) (fd_r fcX11_drop (by decide +kernel)) rfl
theorem dX11_drop_29 : decode cX11_drop 29 = .ok (.iconst 1, 1) := dq_4 (fd_r fcX11_drop (by decide +kernel))
theorem dX11_drop_30 : decode cX11_drop 30 = .ok (.ireturn, 1) := dq_172 (fd_r fcX11_drop (by decide +kernel))
theorem dX11_turn_0 : decode cX11_turn 0 = .ok (.aload_n 0, 1) := dq_42 (fd_r fcX11_turn (by decide +kernel))
theorem dX11_turn_1 : decode cX11_turn 1 = .ok (.invokevirtual 204, 3) := dq_182 (a := 0) (b := 204) (fd_r fcX11_turn (by decide +kernel)) rfl
theorem dX11_turn_4 : decode cX11_turn 4 = .ok (.ifCond .eq 13, 3) := dq_153 (a := 0) (b := 13) (fd_r fcX11_turn (by decide +kernel)) rfl
theorem dX11_turn_7 : decode cX11_turn 7 = .ok (.iload_n 1, 1) := dq_27 (fd_r fcX11_turn (by decide +kernel))
theorem dX11_turn_8 : decode cX11_turn 8 = .ok (.ifCond .lt 9, 3) := dq_155 (a := 0) (b := 9) (fd_r fcX11_turn (by decide +kernel)) rfl
theorem dX11_turn_11 : decode cX11_turn 11 = .ok (.iload_n 1, 1) := dq_27 (fd_r fcX11_turn (by decide +kernel))
theorem dX11_turn_12 : decode cX11_turn 12 = .ok (.bipush 8, 2) := dq_16 (a := 8) (fd_r fcX11_turn (by decide +kernel)) rfl
theorem dX11_turn_14 : decode cX11_turn 14 = .ok (.if_icmp .lt 11, 3) := dq_161 (a := 0) (b := 11) (fd_r fcX11_turn (by decide +kernel)) rfl
theorem dX11_turn_17 : decode cX11_turn 17 = .ok (.aload_n 0, 1) := dq_42 (fd_r fcX11_turn (by decide +kernel))
theorem dX11_turn_18 : decode cX11_turn 18 = .ok (.iconst 3, 1) := dq_6 (fd_r fcX11_turn (by decide +kernel))
theorem dX11_turn_19 : decode cX11_turn 19 = .ok (.invokevirtual 103, 3) := dq_182 (a := 0) (b := 103) (fd_r fcX11_turn (by decide +kernel)) rfl
theorem dX11_turn_22 : decode cX11_turn 22 = .ok (.pop, 1) := dq_87 (fd_r fcX11_turn (by decide +kernel))
theorem dX11_turn_23 : decode cX11_turn 23 = .ok (.iconst (-1), 1) := dq_2 (fd_r fcX11_turn (by decide +kernel))
theorem dX11_turn_24 : decode cX11_turn 24 = .ok (.ireturn, 1) := dq_172 (fd_r fcX11_turn (by decide +kernel))
theorem dX11_turn_25 : decode cX11_turn 25 = .ok (.aload_n 0, 1) := dq_42 (fd_r fcX11_turn (by decide +kernel))
theorem dX11_turn_26 : decode cX11_turn 26 = .ok (.invokevirtual 388, 3) := dq_182 (a := 1) (b := 132) (fd_r fcX11_turn (by decide +kernel)) rfl
theorem dX11_turn_29 : decode cX11_turn 29 = .ok (.aload_n 0, 1) := dq_42 (fd_r fcX11_turn (by decide +kernel))
theorem dX11_turn_30 : decode cX11_turn 30 = .ok (.getfield 43, 3) := dq_180 (a := 0) (b := 43) (fd_r fcX11_turn (by decide +kernel)) rfl
theorem dX11_turn_33 : decode cX11_turn 33 = .ok (.dup, 1) := dq_89 (fd_r fcX11_turn (by decide +kernel))
theorem dX11_turn_34 : decode cX11_turn 34 = .ok (.getfield 177, 3) := dq_180 (a := 0) (b := 177) (fd_r fcX11_turn (by decide +kernel)) rfl
theorem dX11_turn_37 : decode cX11_turn 37 = .ok (.iconst 1, 1) := dq_4 (fd_r fcX11_turn (by decide +kernel))
theorem dX11_turn_38 : decode cX11_turn 38 = .ok (.iload_n 1, 1) := dq_27 (fd_r fcX11_turn (by decide +kernel))
theorem dX11_turn_39 : decode cX11_turn 39 = .ok (.ishl, 1) := dq_120 (fd_r fcX11_turn (by decide +kernel))
theorem dX11_turn_40 : decode cX11_turn 40 = .ok (.ixor, 1) := dq_130 (fd_r fcX11_turn (by decide +kernel))
theorem dX11_turn_41 : decode cX11_turn 41 = .ok (.putfield 177, 3) := dq_181 (a := 0) (b := 177) (fd_r fcX11_turn (by decide +kernel)) rfl
theorem dX11_turn_44 : decode cX11_turn 44 = .ok (.aload_n 0, 1) := dq_42 (fd_r fcX11_turn (by decide +kernel))
theorem dX11_turn_45 : decode cX11_turn 45 = .ok (.getfield 43, 3) := dq_180 (a := 0) (b := 43) (fd_r fcX11_turn (by decide +kernel)) rfl
theorem dX11_turn_48 : decode cX11_turn 48 = .ok (.getfield 177, 3) := dq_180 (a := 0) (b := 177) (fd_r fcX11_turn (by decide +kernel)) rfl
theorem dX11_turn_51 : decode cX11_turn 51 = .ok (.iload_n 1, 1) := dq_27 (fd_r fcX11_turn (by decide +kernel))
theorem dX11_turn_52 : decode cX11_turn 52 = .ok (.invokestatic 234, 3) := dq_184 (a := 0) (b := 234) (fd_r fcX11_turn (by decide +kernel)) rfl
theorem dX11_turn_55 : decode cX11_turn 55 = .ok (.ifCond .eq 7, 3) := dq_153 (a := 0) (b := 7) (fd_r fcX11_turn (by decide +kernel)) rfl
theorem dX11_turn_58 : decode cX11_turn 58 = .ok (.iconst 1, 1) := dq_4 (fd_r fcX11_turn (by decide +kernel))
theorem dX11_turn_59 : decode cX11_turn 59 = .ok (.goto 4, 3) := dq_167 (a := 0) (b := 4) (fd_r fcX11_turn (by decide +kernel)) rfl
theorem dX11_turn_62 : decode cX11_turn 62 = .ok (.iconst 0, 1) := dq_3 (fd_r fcX11_turn (by decide +kernel))
theorem dX11_turn_63 : decode cX11_turn 63 = .ok (.ireturn, 1) := dq_172 (fd_r fcX11_turn (by decide +kernel))
theorem dX11_choose_0 : decode cX11_choose 0 = .ok (.aload_n 0, 1) := dq_42 (fd_r fcX11_choose (by decide +kernel))
theorem dX11_choose_1 : decode cX11_choose 1 = .ok (.invokevirtual 204, 3) := dq_182 (a := 0) (b := 204) (fd_r fcX11_choose (by decide +kernel)) rfl
theorem dX11_choose_4 : decode cX11_choose 4 = .ok (.ifCond .eq 21, 3) := dq_153 (a := 0) (b := 21) (fd_r fcX11_choose (by decide +kernel)) rfl
theorem dX11_choose_7 : decode cX11_choose 7 = .ok (.iload_n 1, 1) := dq_27 (fd_r fcX11_choose (by decide +kernel))
theorem dX11_choose_8 : decode cX11_choose 8 = .ok (.invokestatic 303, 3) := dq_184 (a := 1) (b := 47) (fd_r fcX11_choose (by decide +kernel)) rfl
theorem dX11_choose_11 : decode cX11_choose 11 = .ok (.ifCond .eq 14, 3) := dq_153 (a := 0) (b := 14) (fd_r fcX11_choose (by decide +kernel)) rfl
theorem dX11_choose_14 : decode cX11_choose 14 = .ok (.iload_n 1, 1) := dq_27 (fd_r fcX11_choose (by decide +kernel))
theorem dX11_choose_15 : decode cX11_choose 15 = .ok (.aload_n 0, 1) := dq_42 (fd_r fcX11_choose (by decide +kernel))
theorem dX11_choose_16 : decode cX11_choose 16 = .ok (.getfield 43, 3) := dq_180 (a := 0) (b := 43) (fd_r fcX11_choose (by decide +kernel)) rfl
theorem dX11_choose_19 : decode cX11_choose 19 = .ok (.getfield 180, 3) := dq_180 (a := 0) (b := 180) (fd_r fcX11_choose (by decide +kernel)) rfl
theorem dX11_choose_22 : decode cX11_choose 22 = .ok (.if_icmp .ne 9, 3) := dq_160 (a := 0) (b := 9) (fd_r fcX11_choose (by decide +kernel)) rfl
theorem dX11_choose_25 : decode cX11_choose 25 = .ok (.aload_n 0, 1) := dq_42 (fd_r fcX11_choose (by decide +kernel))
theorem dX11_choose_26 : decode cX11_choose 26 = .ok (.iconst 3, 1) := dq_6 (fd_r fcX11_choose (by decide +kernel))
theorem dX11_choose_27 : decode cX11_choose 27 = .ok (.invokevirtual 103, 3) := dq_182 (a := 0) (b := 103) (fd_r fcX11_choose (by decide +kernel)) rfl
theorem dX11_choose_30 : decode cX11_choose 30 = .ok (.ireturn, 1) := dq_172 (fd_r fcX11_choose (by decide +kernel))
theorem dX11_choose_31 : decode cX11_choose 31 = .ok (.aload_n 0, 1) := dq_42 (fd_r fcX11_choose (by decide +kernel))
theorem dX11_choose_32 : decode cX11_choose 32 = .ok (.invokevirtual 388, 3) := dq_182 (a := 1) (b := 132) (fd_r fcX11_choose (by decide +kernel)) rfl
theorem dX11_choose_35 : decode cX11_choose 35 = .ok (.aload_n 0, 1) := dq_42 (fd_r fcX11_choose (by decide +kernel))
theorem dX11_choose_36 : decode cX11_choose 36 = .ok (.getfield 43, 3) := dq_180 (a := 0) (b := 43) (fd_r fcX11_choose (by decide +kernel)) rfl
theorem dX11_choose_39 : decode cX11_choose 39 = .ok (.iload_n 1, 1) := dq_27 (fd_r fcX11_choose (by decide +kernel))
theorem dX11_choose_40 : decode cX11_choose 40 = .ok (.putfield 180, 3) := dq_181 (a := 0) (b := 180) (fd_r fcX11_choose (by decide +kernel)) rfl
theorem dX11_choose_43 : decode cX11_choose 43 = .ok (.iconst 1, 1) := dq_4 (fd_r fcX11_choose (by decide +kernel))
theorem dX11_choose_44 : decode cX11_choose 44 = .ok (.ireturn, 1) := dq_172 (fd_r fcX11_choose (by decide +kernel))
theorem dX11_undo_0 : decode cX11_undo 0 = .ok (.aload_n 0, 1) := dq_42 (fd_r fcX11_undo (by decide +kernel))
theorem dX11_undo_1 : decode cX11_undo 1 = .ok (.getfield 53, 3) := dq_180 (a := 0) (b := 53) (fd_r fcX11_undo (by decide +kernel)) rfl
theorem dX11_undo_4 : decode cX11_undo 4 = .ok (.getfield 185, 3) := dq_180 (a := 0) (b := 185) (fd_r fcX11_undo (by decide +kernel)) rfl
theorem dX11_undo_7 : decode cX11_undo 7 = .ok (.ifCond .ne 9, 3) := dq_154 (a := 0) (b := 9) (fd_r fcX11_undo (by decide +kernel)) rfl
theorem dX11_undo_10 : decode cX11_undo 10 = .ok (.aload_n 0, 1) := dq_42 (fd_r fcX11_undo (by decide +kernel))
theorem dX11_undo_11 : decode cX11_undo 11 = .ok (.iconst 4, 1) := dq_7 (fd_r fcX11_undo (by decide +kernel))
theorem dX11_undo_12 : decode cX11_undo 12 = .ok (.invokevirtual 103, 3) := dq_182 (a := 0) (b := 103) (fd_r fcX11_undo (by decide +kernel)) rfl
theorem dX11_undo_15 : decode cX11_undo 15 = .ok (.ireturn, 1) := dq_172 (fd_r fcX11_undo (by decide +kernel))
theorem dX11_undo_16 : decode cX11_undo 16 = .ok (.aload_n 0, 1) := dq_42 (fd_r fcX11_undo (by decide +kernel))
theorem dX11_undo_17 : decode cX11_undo 17 = .ok (.getfield 53, 3) := dq_180 (a := 0) (b := 53) (fd_r fcX11_undo (by decide +kernel)) rfl
theorem dX11_undo_20 : decode cX11_undo 20 = .ok (.aload_n 0, 1) := dq_42 (fd_r fcX11_undo (by decide +kernel))
theorem dX11_undo_21 : decode cX11_undo 21 = .ok (.getfield 43, 3) := dq_180 (a := 0) (b := 43) (fd_r fcX11_undo (by decide +kernel)) rfl
theorem dX11_undo_24 : decode cX11_undo 24 = .ok (.invokevirtual 409, 3) := dq_182 (a := 1) (b := 153) (fd_r fcX11_undo (by decide +kernel)) rfl
theorem dX11_undo_27 : decode cX11_undo 27 = .ok (.iconst 1, 1) := dq_4 (fd_r fcX11_undo (by decide +kernel))
theorem dX11_undo_28 : decode cX11_undo 28 = .ok (.ireturn, 1) := dq_172 (fd_r fcX11_undo (by decide +kernel))
theorem dX11_remember_0 : decode cX11_remember 0 = .ok (.aload_n 0, 1) := dq_42 (fd_r fcX11_remember (by decide +kernel))
theorem dX11_remember_1 : decode cX11_remember 1 = .ok (.getfield 53, 3) := dq_180 (a := 0) (b := 53) (fd_r fcX11_remember (by decide +kernel)) rfl
theorem dX11_remember_4 : decode cX11_remember 4 = .ok (.aload_n 0, 1) := dq_42 (fd_r fcX11_remember (by decide +kernel))
theorem dX11_remember_5 : decode cX11_remember 5 = .ok (.getfield 43, 3) := dq_180 (a := 0) (b := 43) (fd_r fcX11_remember (by decide +kernel)) rfl
theorem dX11_remember_8 : decode cX11_remember 8 = .ok (.invokevirtual 412, 3) := dq_182 (a := 1) (b := 156) (fd_r fcX11_remember (by decide +kernel)) rfl
theorem dX11_remember_11 : decode cX11_remember 11 = .ok (.return_, 1) := dq_177 (fd_r fcX11_remember (by decide +kernel))
theorem dX11_seed_0 : decode cX11_seed 0 = .ok (.iload_n 1, 1) := dq_27 (fd_r fcX11_seed (by decide +kernel))
theorem dX11_seed_1 : decode cX11_seed 1 = .ok (.ifCond .ge 9, 3) := dq_156 (a := 0) (b := 9) (fd_r fcX11_seed (by decide +kernel)) rfl
theorem dX11_seed_4 : decode cX11_seed 4 = .ok (.aload_n 0, 1) := dq_42 (fd_r fcX11_seed (by decide +kernel))
theorem dX11_seed_5 : decode cX11_seed 5 = .ok (.iconst 5, 1) := dq_8 (fd_r fcX11_seed (by decide +kernel))
theorem dX11_seed_6 : decode cX11_seed 6 = .ok (.invokevirtual 103, 3) := dq_182 (a := 0) (b := 103) (fd_r fcX11_seed (by decide +kernel)) rfl
theorem dX11_seed_9 : decode cX11_seed 9 = .ok (.ireturn, 1) := dq_172 (fd_r fcX11_seed (by decide +kernel))
theorem dX11_seed_10 : decode cX11_seed 10 = .ok (.aload_n 0, 1) := dq_42 (fd_r fcX11_seed (by decide +kernel))
theorem dX11_seed_11 : decode cX11_seed 11 = .ok (.iload_n 1, 1) := dq_27 (fd_r fcX11_seed (by decide +kernel))
theorem dX11_seed_12 : decode cX11_seed 12 = .ok (.putfield 96, 3) := dq_181 (a := 0) (b := 96) (fd_r fcX11_seed (by decide +kernel)) rfl
theorem dX11_seed_15 : decode cX11_seed 15 = .ok (.iconst 1, 1) := dq_4 (fd_r fcX11_seed (by decide +kernel))
theorem dX11_seed_16 : decode cX11_seed 16 = .ok (.ireturn, 1) := dq_172 (fd_r fcX11_seed (by decide +kernel))
theorem dX11_kept_0 : decode cX11_kept 0 = .ok (.aload_n 0, 1) := dq_42 (fd_r fcX11_kept (by decide +kernel))
theorem dX11_kept_1 : decode cX11_kept 1 = .ok (.getfield 53, 3) := dq_180 (a := 0) (b := 53) (fd_r fcX11_kept (by decide +kernel)) rfl
theorem dX11_kept_4 : decode cX11_kept 4 = .ok (.iload_n 1, 1) := dq_27 (fd_r fcX11_kept (by decide +kernel))
theorem dX11_kept_5 : decode cX11_kept 5 = .ok (.iload_n 2, 1) := dq_28 (fd_r fcX11_kept (by decide +kernel))
theorem dX11_kept_6 : decode cX11_kept 6 = .ok (.invokevirtual 414, 3) := dq_182 (a := 1) (b := 158) (fd_r fcX11_kept (by decide +kernel)) rfl
theorem dX11_kept_9 : decode cX11_kept 9 = .ok (.ireturn, 1) := dq_172 (fd_r fcX11_kept (by decide +kernel))
theorem dX11_image_0 : decode cX11_image 0 = .ok (.aload_n 0, 1) := dq_42 (fd_r fcX11_image (by decide +kernel))
theorem dX11_image_1 : decode cX11_image 1 = .ok (.getfield 18, 3) := dq_180 (a := 0) (b := 18) (fd_r fcX11_image (by decide +kernel)) rfl
theorem dX11_image_4 : decode cX11_image 4 = .ok (.iconst 0, 1) := dq_3 (fd_r fcX11_image (by decide +kernel))
theorem dX11_image_5 : decode cX11_image 5 = .ok (.putfield 100, 3) := dq_181 (a := 0) (b := 100) (fd_r fcX11_image (by decide +kernel)) rfl
theorem dX11_image_8 : decode cX11_image 8 = .ok (.aload_n 0, 1) := dq_42 (fd_r fcX11_image (by decide +kernel))
theorem dX11_image_9 : decode cX11_image 9 = .ok (.getfield 18, 3) := dq_180 (a := 0) (b := 18) (fd_r fcX11_image (by decide +kernel)) rfl
theorem dX11_image_12 : decode cX11_image 12 = .ok (.aload_n 0, 1) := dq_42 (fd_r fcX11_image (by decide +kernel))
theorem dX11_image_13 : decode cX11_image 13 = .ok (.getfield 43, 3) := dq_180 (a := 0) (b := 43) (fd_r fcX11_image (by decide +kernel)) rfl
theorem dX11_image_16 : decode cX11_image 16 = .ok (.getfield 176, 3) := dq_180 (a := 0) (b := 176) (fd_r fcX11_image (by decide +kernel)) rfl
theorem dX11_image_19 : decode cX11_image 19 = .ok (.invokevirtual 264, 3) := dq_182 (a := 1) (b := 8) (fd_r fcX11_image (by decide +kernel)) rfl
theorem dX11_image_22 : decode cX11_image 22 = .ok (.iconst 0, 1) := dq_3 (fd_r fcX11_image (by decide +kernel))
theorem dX11_image_23 : decode cX11_image 23 = .ok (.istore_n 1, 1) := dq_60 (fd_r fcX11_image (by decide +kernel))
theorem dX11_image_24 : decode cX11_image 24 = .ok (.iload_n 1, 1) := dq_27 (fd_r fcX11_image (by decide +kernel))
theorem dX11_image_25 : decode cX11_image 25 = .ok (.aload_n 0, 1) := dq_42 (fd_r fcX11_image (by decide +kernel))
theorem dX11_image_26 : decode cX11_image 26 = .ok (.getfield 43, 3) := dq_180 (a := 0) (b := 43) (fd_r fcX11_image (by decide +kernel)) rfl
theorem dX11_image_29 : decode cX11_image 29 = .ok (.getfield 176, 3) := dq_180 (a := 0) (b := 176) (fd_r fcX11_image (by decide +kernel)) rfl
theorem dX11_image_32 : decode cX11_image 32 = .ok (.if_icmp .ge 25, 3) := dq_162 (a := 0) (b := 25) (fd_r fcX11_image (by decide +kernel)) rfl
theorem dX11_image_35 : decode cX11_image 35 = .ok (.aload_n 0, 1) := dq_42 (fd_r fcX11_image (by decide +kernel))
theorem dX11_image_36 : decode cX11_image 36 = .ok (.getfield 18, 3) := dq_180 (a := 0) (b := 18) (fd_r fcX11_image (by decide +kernel)) rfl
theorem dX11_image_39 : decode cX11_image 39 = .ok (.aload_n 0, 1) := dq_42 (fd_r fcX11_image (by decide +kernel))
theorem dX11_image_40 : decode cX11_image 40 = .ok (.getfield 43, 3) := dq_180 (a := 0) (b := 43) (fd_r fcX11_image (by decide +kernel)) rfl
theorem dX11_image_43 : decode cX11_image 43 = .ok (.getfield 417, 3) := dq_180 (a := 1) (b := 161) (fd_r fcX11_image (by decide +kernel)) rfl
theorem dX11_image_46 : decode cX11_image 46 = .ok (.iload_n 1, 1) := dq_27 (fd_r fcX11_image (by decide +kernel))
theorem dX11_image_47 : decode cX11_image 47 = .ok (.iaload, 1) := dq_46 (fd_r fcX11_image (by decide +kernel))
theorem dX11_image_48 : decode cX11_image 48 = .ok (.invokevirtual 264, 3) := dq_182 (a := 1) (b := 8) (fd_r fcX11_image (by decide +kernel)) rfl
theorem dX11_image_51 : decode cX11_image 51 = .ok (.iinc 1 1, 3) := dq_132 (a := 1) (b := 1) (fd_r fcX11_image (by decide +kernel)) rfl
theorem dX11_image_54 : decode cX11_image 54 = .ok (.goto (-30), 3) := dq_167 (a := 255) (b := 226) (fd_r fcX11_image (by decide +kernel)) rfl
theorem dX11_image_57 : decode cX11_image 57 = .ok (.aload_n 0, 1) := dq_42 (fd_r fcX11_image (by decide +kernel))
theorem dX11_image_58 : decode cX11_image 58 = .ok (.getfield 18, 3) := dq_180 (a := 0) (b := 18) (fd_r fcX11_image (by decide +kernel)) rfl
theorem dX11_image_61 : decode cX11_image 61 = .ok (.aload_n 0, 1) := dq_42 (fd_r fcX11_image (by decide +kernel))
theorem dX11_image_62 : decode cX11_image 62 = .ok (.getfield 43, 3) := dq_180 (a := 0) (b := 43) (fd_r fcX11_image (by decide +kernel)) rfl
theorem dX11_image_65 : decode cX11_image 65 = .ok (.getfield 177, 3) := dq_180 (a := 0) (b := 177) (fd_r fcX11_image (by decide +kernel)) rfl
theorem dX11_image_68 : decode cX11_image 68 = .ok (.invokevirtual 264, 3) := dq_182 (a := 1) (b := 8) (fd_r fcX11_image (by decide +kernel)) rfl
theorem dX11_image_71 : decode cX11_image 71 = .ok (.aload_n 0, 1) := dq_42 (fd_r fcX11_image (by decide +kernel))
theorem dX11_image_72 : decode cX11_image 72 = .ok (.getfield 18, 3) := dq_180 (a := 0) (b := 18) (fd_r fcX11_image (by decide +kernel)) rfl
theorem dX11_image_75 : decode cX11_image 75 = .ok (.aload_n 0, 1) := dq_42 (fd_r fcX11_image (by decide +kernel))
theorem dX11_image_76 : decode cX11_image 76 = .ok (.getfield 43, 3) := dq_180 (a := 0) (b := 43) (fd_r fcX11_image (by decide +kernel)) rfl
theorem dX11_image_79 : decode cX11_image 79 = .ok (.getfield 180, 3) := dq_180 (a := 0) (b := 180) (fd_r fcX11_image (by decide +kernel)) rfl
theorem dX11_image_82 : decode cX11_image 82 = .ok (.invokevirtual 264, 3) := dq_182 (a := 1) (b := 8) (fd_r fcX11_image (by decide +kernel)) rfl
theorem dX11_image_85 : decode cX11_image 85 = .ok (.aload_n 0, 1) := dq_42 (fd_r fcX11_image (by decide +kernel))
theorem dX11_image_86 : decode cX11_image 86 = .ok (.getfield 18, 3) := dq_180 (a := 0) (b := 18) (fd_r fcX11_image (by decide +kernel)) rfl
theorem dX11_image_89 : decode cX11_image 89 = .ok (.aload_n 0, 1) := dq_42 (fd_r fcX11_image (by decide +kernel))
theorem dX11_image_90 : decode cX11_image 90 = .ok (.getfield 18, 3) := dq_180 (a := 0) (b := 18) (fd_r fcX11_image (by decide +kernel)) rfl
theorem dX11_image_93 : decode cX11_image 93 = .ok (.aload_n 0, 1) := dq_42 (fd_r fcX11_image (by decide +kernel))
theorem dX11_image_94 : decode cX11_image 94 = .ok (.getfield 18, 3) := dq_180 (a := 0) (b := 18) (fd_r fcX11_image (by decide +kernel)) rfl
theorem dX11_image_97 : decode cX11_image 97 = .ok (.getfield 100, 3) := dq_180 (a := 0) (b := 100) (fd_r fcX11_image (by decide +kernel)) rfl
theorem dX11_image_100 : decode cX11_image 100 = .ok (.invokevirtual 420, 3) := dq_182 (a := 1) (b := 164) (fd_r fcX11_image (by decide +kernel)) rfl
theorem dX11_image_103 : decode cX11_image 103 = .ok (.invokevirtual 264, 3) := dq_182 (a := 1) (b := 8) (fd_r fcX11_image (by decide +kernel)) rfl
theorem dX11_image_106 : decode cX11_image 106 = .ok (.aload_n 0, 1) := dq_42 (fd_r fcX11_image (by decide +kernel))
theorem dX11_image_107 : decode cX11_image 107 = .ok (.getfield 18, 3) := dq_180 (a := 0) (b := 18) (fd_r fcX11_image (by decide +kernel)) rfl
theorem dX11_image_110 : decode cX11_image 110 = .ok (.getfield 100, 3) := dq_180 (a := 0) (b := 100) (fd_r fcX11_image (by decide +kernel)) rfl
theorem dX11_image_113 : decode cX11_image 113 = .ok (.ireturn, 1) := dq_172 (fd_r fcX11_image (by decide +kernel))
theorem dX11_on_0 : decode cX11_on 0 = .ok (.aload_n 0, 1) := dq_42 (fd_r fcX11_on (by decide +kernel))
theorem dX11_on_1 : decode cX11_on 1 = .ok (.invokevirtual 204, 3) := dq_182 (a := 0) (b := 204) (fd_r fcX11_on (by decide +kernel)) rfl
theorem dX11_on_4 : decode cX11_on 4 = .ok (.ifCond .eq 14, 3) := dq_153 (a := 0) (b := 14) (fd_r fcX11_on (by decide +kernel)) rfl
theorem dX11_on_7 : decode cX11_on 7 = .ok (.aload_n 0, 1) := dq_42 (fd_r fcX11_on (by decide +kernel))
theorem dX11_on_8 : decode cX11_on 8 = .ok (.invokevirtual 423, 3) := dq_182 (a := 1) (b := 167) (fd_r fcX11_on (by decide +kernel)) rfl
theorem dX11_on_11 : decode cX11_on 11 = .ok (.ifCond .eq 7, 3) := dq_153 (a := 0) (b := 7) (fd_r fcX11_on (by decide +kernel)) rfl
theorem dX11_on_14 : decode cX11_on 14 = .ok (.iconst 1, 1) := dq_4 (fd_r fcX11_on (by decide +kernel))
theorem dX11_on_15 : decode cX11_on 15 = .ok (.goto 4, 3) := dq_167 (a := 0) (b := 4) (fd_r fcX11_on (by decide +kernel)) rfl
theorem dX11_on_18 : decode cX11_on 18 = .ok (.iconst 0, 1) := dq_3 (fd_r fcX11_on (by decide +kernel))
theorem dX11_on_19 : decode cX11_on 19 = .ok (.istore_n 1, 1) := dq_60 (fd_r fcX11_on (by decide +kernel))
theorem dX11_on_20 : decode cX11_on 20 = .ok (.iload_n 1, 1) := dq_27 (fd_r fcX11_on (by decide +kernel))
theorem dX11_on_21 : decode cX11_on 21 = .ok (.ifCond .eq 7, 3) := dq_153 (a := 0) (b := 7) (fd_r fcX11_on (by decide +kernel)) rfl
theorem dX11_on_24 : decode cX11_on 24 = .ok (.aload_n 0, 1) := dq_42 (fd_r fcX11_on (by decide +kernel))
theorem dX11_on_25 : decode cX11_on 25 = .ok (.invokevirtual 426, 3) := dq_182 (a := 1) (b := 170) (fd_r fcX11_on (by decide +kernel)) rfl
theorem dX11_on_28 : decode cX11_on 28 = .ok (.aload_n 0, 1) := dq_42 (fd_r fcX11_on (by decide +kernel))
theorem dX11_on_29 : decode cX11_on 29 = .ok (.getfield 14, 3) := dq_180 (a := 0) (b := 14) (fd_r fcX11_on (by decide +kernel)) rfl
theorem dX11_on_32 : decode cX11_on 32 = .ok (.iconst 0, 1) := dq_3 (fd_r fcX11_on (by decide +kernel))
theorem dX11_on_33 : decode cX11_on 33 = .ok (.putfield 100, 3) := dq_181 (a := 0) (b := 100) (fd_r fcX11_on (by decide +kernel)) rfl
theorem dX11_on_36 : decode cX11_on 36 = .ok (.iload_n 1, 1) := dq_27 (fd_r fcX11_on (by decide +kernel))
theorem dX11_on_37 : decode cX11_on 37 = .ok (.ifCond .ne 11, 3) := dq_154 (a := 0) (b := 11) (fd_r fcX11_on (by decide +kernel)) rfl
theorem dX11_on_40 : decode cX11_on 40 = .ok (.aload_n 0, 1) := dq_42 (fd_r fcX11_on (by decide +kernel))
theorem dX11_on_41 : decode cX11_on 41 = .ok (.iconst 5, 1) := dq_8 (fd_r fcX11_on (by decide +kernel))
theorem dX11_on_42 : decode cX11_on 42 = .ok (.invokevirtual 103, 3) := dq_182 (a := 0) (b := 103) (fd_r fcX11_on (by decide +kernel)) rfl
theorem dX11_on_45 : decode cX11_on 45 = .ok (.ifCond .eq 7, 3) := dq_153 (a := 0) (b := 7) (fd_r fcX11_on (by decide +kernel)) rfl
theorem dX11_on_48 : decode cX11_on 48 = .ok (.iconst 1, 1) := dq_4 (fd_r fcX11_on (by decide +kernel))
theorem dX11_on_49 : decode cX11_on 49 = .ok (.goto 4, 3) := dq_167 (a := 0) (b := 4) (fd_r fcX11_on (by decide +kernel)) rfl
theorem dX11_on_52 : decode cX11_on 52 = .ok (.iconst 0, 1) := dq_3 (fd_r fcX11_on (by decide +kernel))
theorem dX11_on_53 : decode cX11_on 53 = .ok (.ireturn, 1) := dq_172 (fd_r fcX11_on (by decide +kernel))
theorem dX11_isImage_0 : decode cX11_isImage 0 = .ok (.aload_n 0, 1) := dq_42 (fd_r fcX11_isImage (by decide +kernel))
theorem dX11_isImage_1 : decode cX11_isImage 1 = .ok (.getfield 14, 3) := dq_180 (a := 0) (b := 14) (fd_r fcX11_isImage (by decide +kernel)) rfl
theorem dX11_isImage_4 : decode cX11_isImage 4 = .ok (.iconst 0, 1) := dq_3 (fd_r fcX11_isImage (by decide +kernel))
theorem dX11_isImage_5 : decode cX11_isImage 5 = .ok (.invokevirtual 300, 3) := dq_182 (a := 1) (b := 44) (fd_r fcX11_isImage (by decide +kernel)) rfl
theorem dX11_isImage_8 : decode cX11_isImage 8 = .ok (.istore_n 1, 1) := dq_60 (fd_r fcX11_isImage (by decide +kernel))
theorem dX11_isImage_9 : decode cX11_isImage 9 = .ok (.iload_n 1, 1) := dq_27 (fd_r fcX11_isImage (by decide +kernel))
theorem dX11_isImage_10 : decode cX11_isImage 10 = .ok (.ifCond .lt 27, 3) := dq_155 (a := 0) (b := 27) (fd_r fcX11_isImage (by decide +kernel)) rfl
theorem dX11_isImage_13 : decode cX11_isImage 13 = .ok (.iload_n 1, 1) := dq_27 (fd_r fcX11_isImage (by decide +kernel))
theorem dX11_isImage_14 : decode cX11_isImage 14 = .ok (.aload_n 0, 1) := dq_42 (fd_r fcX11_isImage (by decide +kernel))
theorem dX11_isImage_15 : decode cX11_isImage 15 = .ok (.getfield 71, 3) := dq_180 (a := 0) (b := 71) (fd_r fcX11_isImage (by decide +kernel)) rfl
theorem dX11_isImage_18 : decode cX11_isImage 18 = .ok (.getfield 123, 3) := dq_180 (a := 0) (b := 123) (fd_r fcX11_isImage (by decide +kernel)) rfl
theorem dX11_isImage_21 : decode cX11_isImage 21 = .ok (.if_icmp .gt 16, 3) := dq_163 (a := 0) (b := 16) (fd_r fcX11_isImage (by decide +kernel)) rfl
theorem dX11_isImage_24 : decode cX11_isImage 24 = .ok (.aload_n 0, 1) := dq_42 (fd_r fcX11_isImage (by decide +kernel))
theorem dX11_isImage_25 : decode cX11_isImage 25 = .ok (.getfield 14, 3) := dq_180 (a := 0) (b := 14) (fd_r fcX11_isImage (by decide +kernel)) rfl
theorem dX11_isImage_28 : decode cX11_isImage 28 = .ok (.getfield 100, 3) := dq_180 (a := 0) (b := 100) (fd_r fcX11_isImage (by decide +kernel)) rfl
theorem dX11_isImage_31 : decode cX11_isImage 31 = .ok (.iload_n 1, 1) := dq_27 (fd_r fcX11_isImage (by decide +kernel))
theorem dX11_isImage_32 : decode cX11_isImage 32 = .ok (.iconst 4, 1) := dq_7 (fd_r fcX11_isImage (by decide +kernel))
theorem dX11_isImage_33 : decode cX11_isImage 33 = .ok (.iadd, 1) := dq_96 (fd_r fcX11_isImage (by decide +kernel))
theorem dX11_isImage_34 : decode cX11_isImage 34 = .ok (.if_icmp .eq 5, 3) := dq_159 (a := 0) (b := 5) (fd_r fcX11_isImage (by decide +kernel)) rfl
theorem dX11_isImage_37 : decode cX11_isImage 37 = .ok (.iconst 0, 1) := dq_3 (fd_r fcX11_isImage (by decide +kernel))
theorem dX11_isImage_38 : decode cX11_isImage 38 = .ok (.ireturn, 1) := dq_172 (fd_r fcX11_isImage (by decide +kernel))
theorem dX11_isImage_39 : decode cX11_isImage 39 = .ok (.iconst 0, 1) := dq_3 (fd_r fcX11_isImage (by decide +kernel))
theorem dX11_isImage_40 : decode cX11_isImage 40 = .ok (.istore_n 2, 1) := dq_61 (fd_r fcX11_isImage (by decide +kernel))
theorem dX11_isImage_41 : decode cX11_isImage 41 = .ok (.iconst 0, 1) := dq_3 (fd_r fcX11_isImage (by decide +kernel))
theorem dX11_isImage_42 : decode cX11_isImage 42 = .ok (.istore_n 3, 1) := dq_62 (fd_r fcX11_isImage (by decide +kernel))
theorem dX11_isImage_43 : decode cX11_isImage 43 = .ok (.iload_n 3, 1) := dq_29 (fd_r fcX11_isImage (by decide +kernel))
theorem dX11_isImage_44 : decode cX11_isImage 44 = .ok (.iload_n 1, 1) := dq_27 (fd_r fcX11_isImage (by decide +kernel))
theorem dX11_isImage_45 : decode cX11_isImage 45 = .ok (.if_icmp .ge 56, 3) := dq_162 (a := 0) (b := 56) (fd_r fcX11_isImage (by decide +kernel)) rfl
theorem dX11_isImage_48 : decode cX11_isImage 48 = .ok (.aload_n 0, 1) := dq_42 (fd_r fcX11_isImage (by decide +kernel))
theorem dX11_isImage_49 : decode cX11_isImage 49 = .ok (.getfield 14, 3) := dq_180 (a := 0) (b := 14) (fd_r fcX11_isImage (by decide +kernel)) rfl
theorem dX11_isImage_52 : decode cX11_isImage 52 = .ok (.iconst 1, 1) := dq_4 (fd_r fcX11_isImage (by decide +kernel))
theorem dX11_isImage_53 : decode cX11_isImage 53 = .ok (.iload_n 3, 1) := dq_29 (fd_r fcX11_isImage (by decide +kernel))
theorem dX11_isImage_54 : decode cX11_isImage 54 = .ok (.iadd, 1) := dq_96 (fd_r fcX11_isImage (by decide +kernel))
theorem dX11_isImage_55 : decode cX11_isImage 55 = .ok (.invokevirtual 300, 3) := dq_182 (a := 1) (b := 44) (fd_r fcX11_isImage (by decide +kernel)) rfl
theorem dX11_isImage_58 : decode cX11_isImage 58 = .ok (.istore 4, 2) := dq_54 (a := 4) (fd_r fcX11_isImage (by decide +kernel))
theorem dX11_isImage_60 : decode cX11_isImage 60 = .ok (.iload 4, 2) := dq_21 (a := 4) (fd_r fcX11_isImage (by decide +kernel))
theorem dX11_isImage_62 : decode cX11_isImage 62 = .ok (.ifCond .lt 24, 3) := dq_155 (a := 0) (b := 24) (fd_r fcX11_isImage (by decide +kernel)) rfl
theorem dX11_isImage_65 : decode cX11_isImage 65 = .ok (.iload 4, 2) := dq_21 (a := 4) (fd_r fcX11_isImage (by decide +kernel))
theorem dX11_isImage_67 : decode cX11_isImage 67 = .ok (.aload_n 0, 1) := dq_42 (fd_r fcX11_isImage (by decide +kernel))
theorem dX11_isImage_68 : decode cX11_isImage 68 = .ok (.getfield 71, 3) := dq_180 (a := 0) (b := 71) (fd_r fcX11_isImage (by decide +kernel)) rfl
theorem dX11_isImage_71 : decode cX11_isImage 71 = .ok (.getfield 123, 3) := dq_180 (a := 0) (b := 123) (fd_r fcX11_isImage (by decide +kernel)) rfl
theorem dX11_isImage_74 : decode cX11_isImage 74 = .ok (.if_icmp .ge 12, 3) := dq_162 (a := 0) (b := 12) (fd_r fcX11_isImage (by decide +kernel)) rfl
theorem dX11_isImage_77 : decode cX11_isImage 77 = .ok (.iload_n 2, 1) := dq_28 (fd_r fcX11_isImage (by decide +kernel))
theorem dX11_isImage_78 : decode cX11_isImage 78 = .ok (.iload 4, 2) := dq_21 (a := 4) (fd_r fcX11_isImage (by decide +kernel))
theorem dX11_isImage_80 : decode cX11_isImage 80 = .ok (.invokestatic 234, 3) := dq_184 (a := 0) (b := 234) (fd_r fcX11_isImage (by decide +kernel)) rfl
theorem dX11_isImage_83 : decode cX11_isImage 83 = .ok (.ifCond .eq 5, 3) := dq_153 (a := 0) (b := 5) (fd_r fcX11_isImage (by decide +kernel)) rfl
theorem dX11_isImage_86 : decode cX11_isImage 86 = .ok (.iconst 0, 1) := dq_3 (fd_r fcX11_isImage (by decide +kernel))
theorem dX11_isImage_87 : decode cX11_isImage 87 = .ok (.ireturn, 1) := dq_172 (fd_r fcX11_isImage (by decide +kernel))
theorem dX11_isImage_88 : decode cX11_isImage 88 = .ok (.iload_n 2, 1) := dq_28 (fd_r fcX11_isImage (by decide +kernel))
theorem dX11_isImage_89 : decode cX11_isImage 89 = .ok (.iconst 1, 1) := dq_4 (fd_r fcX11_isImage (by decide +kernel))
theorem dX11_isImage_90 : decode cX11_isImage 90 = .ok (.iload 4, 2) := dq_21 (a := 4) (fd_r fcX11_isImage (by decide +kernel))
theorem dX11_isImage_92 : decode cX11_isImage 92 = .ok (.ishl, 1) := dq_120 (fd_r fcX11_isImage (by decide +kernel))
theorem dX11_isImage_93 : decode cX11_isImage 93 = .ok (.ior, 1) := dq_128 (fd_r fcX11_isImage (by decide +kernel))
theorem dX11_isImage_94 : decode cX11_isImage 94 = .ok (.istore_n 2, 1) := dq_61 (fd_r fcX11_isImage (by decide +kernel))
theorem dX11_isImage_95 : decode cX11_isImage 95 = .ok (.iinc 3 1, 3) := dq_132 (a := 3) (b := 1) (fd_r fcX11_isImage (by decide +kernel)) rfl
theorem dX11_isImage_98 : decode cX11_isImage 98 = .ok (.goto (-55), 3) := dq_167 (a := 255) (b := 201) (fd_r fcX11_isImage (by decide +kernel)) rfl
theorem dX11_isImage_101 : decode cX11_isImage 101 = .ok (.aload_n 0, 1) := dq_42 (fd_r fcX11_isImage (by decide +kernel))
theorem dX11_isImage_102 : decode cX11_isImage 102 = .ok (.getfield 14, 3) := dq_180 (a := 0) (b := 14) (fd_r fcX11_isImage (by decide +kernel)) rfl
theorem dX11_isImage_105 : decode cX11_isImage 105 = .ok (.iload_n 1, 1) := dq_27 (fd_r fcX11_isImage (by decide +kernel))
theorem dX11_isImage_106 : decode cX11_isImage 106 = .ok (.iconst 2, 1) := dq_5 (fd_r fcX11_isImage (by decide +kernel))
theorem dX11_isImage_107 : decode cX11_isImage 107 = .ok (.iadd, 1) := dq_96 (fd_r fcX11_isImage (by decide +kernel))
theorem dX11_isImage_108 : decode cX11_isImage 108 = .ok (.invokevirtual 300, 3) := dq_182 (a := 1) (b := 44) (fd_r fcX11_isImage (by decide +kernel)) rfl
theorem dX11_isImage_111 : decode cX11_isImage 111 = .ok (.invokestatic 303, 3) := dq_184 (a := 1) (b := 47) (fd_r fcX11_isImage (by decide +kernel)) rfl
theorem dX11_isImage_114 : decode cX11_isImage 114 = .ok (.ifCond .eq 30, 3) := dq_153 (a := 0) (b := 30) (fd_r fcX11_isImage (by decide +kernel)) rfl
theorem dX11_isImage_117 : decode cX11_isImage 117 = .ok (.aload_n 0, 1) := dq_42 (fd_r fcX11_isImage (by decide +kernel))
theorem dX11_isImage_118 : decode cX11_isImage 118 = .ok (.getfield 14, 3) := dq_180 (a := 0) (b := 14) (fd_r fcX11_isImage (by decide +kernel)) rfl
theorem dX11_isImage_121 : decode cX11_isImage 121 = .ok (.iload_n 1, 1) := dq_27 (fd_r fcX11_isImage (by decide +kernel))
theorem dX11_isImage_122 : decode cX11_isImage 122 = .ok (.iconst 3, 1) := dq_6 (fd_r fcX11_isImage (by decide +kernel))
theorem dX11_isImage_123 : decode cX11_isImage 123 = .ok (.iadd, 1) := dq_96 (fd_r fcX11_isImage (by decide +kernel))
theorem dX11_isImage_124 : decode cX11_isImage 124 = .ok (.invokevirtual 300, 3) := dq_182 (a := 1) (b := 44) (fd_r fcX11_isImage (by decide +kernel)) rfl
theorem dX11_isImage_127 : decode cX11_isImage 127 = .ok (.aload_n 0, 1) := dq_42 (fd_r fcX11_isImage (by decide +kernel))
theorem dX11_isImage_128 : decode cX11_isImage 128 = .ok (.getfield 14, 3) := dq_180 (a := 0) (b := 14) (fd_r fcX11_isImage (by decide +kernel)) rfl
theorem dX11_isImage_131 : decode cX11_isImage 131 = .ok (.iload_n 1, 1) := dq_27 (fd_r fcX11_isImage (by decide +kernel))
theorem dX11_isImage_132 : decode cX11_isImage 132 = .ok (.iconst 3, 1) := dq_6 (fd_r fcX11_isImage (by decide +kernel))
theorem dX11_isImage_133 : decode cX11_isImage 133 = .ok (.iadd, 1) := dq_96 (fd_r fcX11_isImage (by decide +kernel))
theorem dX11_isImage_134 : decode cX11_isImage 134 = .ok (.invokevirtual 420, 3) := dq_182 (a := 1) (b := 164) (fd_r fcX11_isImage (by decide +kernel)) rfl
theorem dX11_isImage_137 : decode cX11_isImage 137 = .ok (.if_icmp .ne 7, 3) := dq_160 (a := 0) (b := 7) (fd_r fcX11_isImage (by decide +kernel)) rfl
theorem dX11_isImage_140 : decode cX11_isImage 140 = .ok (.iconst 1, 1) := dq_4 (fd_r fcX11_isImage (by decide +kernel))
theorem dX11_isImage_141 : decode cX11_isImage 141 = .ok (.goto 4, 3) := dq_167 (a := 0) (b := 4) (fd_r fcX11_isImage (by decide +kernel)) rfl
theorem dX11_isImage_144 : decode cX11_isImage 144 = .ok (.iconst 0, 1) := dq_3 (fd_r fcX11_isImage (by decide +kernel))
theorem dX11_isImage_145 : decode cX11_isImage 145 = .ok (.ireturn, 1) := dq_172 (fd_r fcX11_isImage (by decide +kernel))
theorem dX11_takeImage_0 : decode cX11_takeImage 0 = .ok (.aload_n 0, 1) := dq_42 (fd_r fcX11_takeImage (by decide +kernel))
theorem dX11_takeImage_1 : decode cX11_takeImage 1 = .ok (.getfield 14, 3) := dq_180 (a := 0) (b := 14) (fd_r fcX11_takeImage (by decide +kernel)) rfl
theorem dX11_takeImage_4 : decode cX11_takeImage 4 = .ok (.iconst 0, 1) := dq_3 (fd_r fcX11_takeImage (by decide +kernel))
theorem dX11_takeImage_5 : decode cX11_takeImage 5 = .ok (.invokevirtual 300, 3) := dq_182 (a := 1) (b := 44) (fd_r fcX11_takeImage (by decide +kernel)) rfl
theorem dX11_takeImage_8 : decode cX11_takeImage 8 = .ok (.bipush 12, 2) := dq_16 (a := 12) (fd_r fcX11_takeImage (by decide +kernel)) rfl
theorem dX11_takeImage_10 : decode cX11_takeImage 10 = .ok (.invokestatic 429, 3) := dq_184 (a := 1) (b := 173) (fd_r fcX11_takeImage (by decide +kernel)) rfl
theorem dX11_takeImage_13 : decode cX11_takeImage 13 = .ok (.istore_n 1, 1) := dq_60 (fd_r fcX11_takeImage (by decide +kernel))
theorem dX11_takeImage_14 : decode cX11_takeImage 14 = .ok (.iconst 0, 1) := dq_3 (fd_r fcX11_takeImage (by decide +kernel))
theorem dX11_takeImage_15 : decode cX11_takeImage 15 = .ok (.istore_n 2, 1) := dq_61 (fd_r fcX11_takeImage (by decide +kernel))
theorem dX11_takeImage_16 : decode cX11_takeImage 16 = .ok (.iload_n 2, 1) := dq_28 (fd_r fcX11_takeImage (by decide +kernel))
theorem dX11_takeImage_17 : decode cX11_takeImage 17 = .ok (.iload_n 1, 1) := dq_27 (fd_r fcX11_takeImage (by decide +kernel))
theorem dX11_takeImage_18 : decode cX11_takeImage 18 = .ok (.if_icmp .ge 28, 3) := dq_162 (a := 0) (b := 28) (fd_r fcX11_takeImage (by decide +kernel)) rfl
theorem dX11_takeImage_21 : decode cX11_takeImage 21 = .ok (.aload_n 0, 1) := dq_42 (fd_r fcX11_takeImage (by decide +kernel))
theorem dX11_takeImage_22 : decode cX11_takeImage 22 = .ok (.getfield 43, 3) := dq_180 (a := 0) (b := 43) (fd_r fcX11_takeImage (by decide +kernel)) rfl
theorem dX11_takeImage_25 : decode cX11_takeImage 25 = .ok (.getfield 417, 3) := dq_180 (a := 1) (b := 161) (fd_r fcX11_takeImage (by decide +kernel)) rfl
theorem dX11_takeImage_28 : decode cX11_takeImage 28 = .ok (.iload_n 2, 1) := dq_28 (fd_r fcX11_takeImage (by decide +kernel))
theorem dX11_takeImage_29 : decode cX11_takeImage 29 = .ok (.aload_n 0, 1) := dq_42 (fd_r fcX11_takeImage (by decide +kernel))
theorem dX11_takeImage_30 : decode cX11_takeImage 30 = .ok (.getfield 14, 3) := dq_180 (a := 0) (b := 14) (fd_r fcX11_takeImage (by decide +kernel)) rfl
theorem dX11_takeImage_33 : decode cX11_takeImage 33 = .ok (.iconst 1, 1) := dq_4 (fd_r fcX11_takeImage (by decide +kernel))
theorem dX11_takeImage_34 : decode cX11_takeImage 34 = .ok (.iload_n 2, 1) := dq_28 (fd_r fcX11_takeImage (by decide +kernel))
theorem dX11_takeImage_35 : decode cX11_takeImage 35 = .ok (.iadd, 1) := dq_96 (fd_r fcX11_takeImage (by decide +kernel))
theorem dX11_takeImage_36 : decode cX11_takeImage 36 = .ok (.invokevirtual 300, 3) := dq_182 (a := 1) (b := 44) (fd_r fcX11_takeImage (by decide +kernel)) rfl
theorem dX11_takeImage_39 : decode cX11_takeImage 39 = .ok (.iastore, 1) := dq_79 (fd_r fcX11_takeImage (by decide +kernel))
theorem dX11_takeImage_40 : decode cX11_takeImage 40 = .ok (.iinc 2 1, 3) := dq_132 (a := 2) (b := 1) (fd_r fcX11_takeImage (by decide +kernel)) rfl
theorem dX11_takeImage_43 : decode cX11_takeImage 43 = .ok (.goto (-27), 3) := dq_167 (a := 255) (b := 229) (fd_r fcX11_takeImage (by decide +kernel)) rfl
theorem dX11_takeImage_46 : decode cX11_takeImage 46 = .ok (.aload_n 0, 1) := dq_42 (fd_r fcX11_takeImage (by decide +kernel))
theorem dX11_takeImage_47 : decode cX11_takeImage 47 = .ok (.getfield 43, 3) := dq_180 (a := 0) (b := 43) (fd_r fcX11_takeImage (by decide +kernel)) rfl
theorem dX11_takeImage_50 : decode cX11_takeImage 50 = .ok (.iload_n 1, 1) := dq_27 (fd_r fcX11_takeImage (by decide +kernel))
theorem dX11_takeImage_51 : decode cX11_takeImage 51 = .ok (.iconst 0, 1) := dq_3 (fd_r fcX11_takeImage (by decide +kernel))
theorem dX11_takeImage_52 : decode cX11_takeImage 52 = .ok (.invokestatic 434, 3) := dq_184 (a := 1) (b := 178) (fd_r fcX11_takeImage (by decide +kernel)) rfl
theorem dX11_takeImage_55 : decode cX11_takeImage 55 = .ok (.putfield 176, 3) := dq_181 (a := 0) (b := 176) (fd_r fcX11_takeImage (by decide +kernel)) rfl
theorem dX11_takeImage_58 : decode cX11_takeImage 58 = .ok (.aload_n 0, 1) := dq_42 (fd_r fcX11_takeImage (by decide +kernel))
theorem dX11_takeImage_59 : decode cX11_takeImage 59 = .ok (.getfield 43, 3) := dq_180 (a := 0) (b := 43) (fd_r fcX11_takeImage (by decide +kernel)) rfl
theorem dX11_takeImage_62 : decode cX11_takeImage 62 = .ok (.aload_n 0, 1) := dq_42 (fd_r fcX11_takeImage (by decide +kernel))
theorem dX11_takeImage_63 : decode cX11_takeImage 63 = .ok (.getfield 14, 3) := dq_180 (a := 0) (b := 14) (fd_r fcX11_takeImage (by decide +kernel)) rfl
theorem dX11_takeImage_66 : decode cX11_takeImage 66 = .ok (.iload_n 1, 1) := dq_27 (fd_r fcX11_takeImage (by decide +kernel))
theorem dX11_takeImage_67 : decode cX11_takeImage 67 = .ok (.iconst 1, 1) := dq_4 (fd_r fcX11_takeImage (by decide +kernel))
theorem dX11_takeImage_68 : decode cX11_takeImage 68 = .ok (.iadd, 1) := dq_96 (fd_r fcX11_takeImage (by decide +kernel))
theorem dX11_takeImage_69 : decode cX11_takeImage 69 = .ok (.invokevirtual 300, 3) := dq_182 (a := 1) (b := 44) (fd_r fcX11_takeImage (by decide +kernel)) rfl
theorem dX11_takeImage_72 : decode cX11_takeImage 72 = .ok (.putfield 177, 3) := dq_181 (a := 0) (b := 177) (fd_r fcX11_takeImage (by decide +kernel)) rfl
theorem dX11_takeImage_75 : decode cX11_takeImage 75 = .ok (.aload_n 0, 1) := dq_42 (fd_r fcX11_takeImage (by decide +kernel))
theorem dX11_takeImage_76 : decode cX11_takeImage 76 = .ok (.getfield 43, 3) := dq_180 (a := 0) (b := 43) (fd_r fcX11_takeImage (by decide +kernel)) rfl
theorem dX11_takeImage_79 : decode cX11_takeImage 79 = .ok (.aload_n 0, 1) := dq_42 (fd_r fcX11_takeImage (by decide +kernel))
theorem dX11_takeImage_80 : decode cX11_takeImage 80 = .ok (.getfield 14, 3) := dq_180 (a := 0) (b := 14) (fd_r fcX11_takeImage (by decide +kernel)) rfl
theorem dX11_takeImage_83 : decode cX11_takeImage 83 = .ok (.iload_n 1, 1) := dq_27 (fd_r fcX11_takeImage (by decide +kernel))
theorem dX11_takeImage_84 : decode cX11_takeImage 84 = .ok (.iconst 2, 1) := dq_5 (fd_r fcX11_takeImage (by decide +kernel))
theorem dX11_takeImage_85 : decode cX11_takeImage 85 = .ok (.iadd, 1) := dq_96 (fd_r fcX11_takeImage (by decide +kernel))
theorem dX11_takeImage_86 : decode cX11_takeImage 86 = .ok (.invokevirtual 300, 3) := dq_182 (a := 1) (b := 44) (fd_r fcX11_takeImage (by decide +kernel)) rfl
theorem dX11_takeImage_89 : decode cX11_takeImage 89 = .ok (.putfield 180, 3) := dq_181 (a := 0) (b := 180) (fd_r fcX11_takeImage (by decide +kernel)) rfl
theorem dX11_takeImage_92 : decode cX11_takeImage 92 = .ok (.aload_n 0, 1) := dq_42 (fd_r fcX11_takeImage (by decide +kernel))
theorem dX11_takeImage_93 : decode cX11_takeImage 93 = .ok (.getfield 53, 3) := dq_180 (a := 0) (b := 53) (fd_r fcX11_takeImage (by decide +kernel)) rfl
theorem dX11_takeImage_96 : decode cX11_takeImage 96 = .ok (.invokevirtual 150, 3) := dq_182 (a := 0) (b := 150) (fd_r fcX11_takeImage (by decide +kernel)) rfl
theorem dX11_takeImage_99 : decode cX11_takeImage 99 = .ok (.return_, 1) := dq_177 (fd_r fcX11_takeImage (by decide +kernel))
theorem dX11_status_0 : decode cX11_status 0 = .ok (.iload_n 1, 1) := dq_27 (fd_r fcX11_status (by decide +kernel))
theorem dX11_status_1 : decode cX11_status 1 = .ok (.ifCond .lt 18, 3) := dq_155 (a := 0) (b := 18) (fd_r fcX11_status (by decide +kernel)) rfl
theorem dX11_status_4 : decode cX11_status 4 = .ok (.iload_n 1, 1) := dq_27 (fd_r fcX11_status (by decide +kernel))
theorem dX11_status_5 : decode cX11_status 5 = .ok (.bipush 6, 2) := dq_16 (a := 6) (fd_r fcX11_status (by decide +kernel)) rfl
theorem dX11_status_7 : decode cX11_status 7 = .ok (.if_icmp .ge 12, 3) := dq_162 (a := 0) (b := 12) (fd_r fcX11_status (by decide +kernel)) rfl
theorem dX11_status_10 : decode cX11_status 10 = .ok (.aload_n 0, 1) := dq_42 (fd_r fcX11_status (by decide +kernel))
theorem dX11_status_11 : decode cX11_status 11 = .ok (.getfield 64, 3) := dq_180 (a := 0) (b := 64) (fd_r fcX11_status (by decide +kernel)) rfl
theorem dX11_status_14 : decode cX11_status 14 = .ok (.iload_n 1, 1) := dq_27 (fd_r fcX11_status (by decide +kernel))
theorem dX11_status_15 : decode cX11_status 15 = .ok (.iaload, 1) := dq_46 (fd_r fcX11_status (by decide +kernel))
theorem dX11_status_16 : decode cX11_status 16 = .ok (.goto 4, 3) := dq_167 (a := 0) (b := 4) (fd_r fcX11_status (by decide +kernel)) rfl
theorem dX11_status_19 : decode cX11_status 19 = .ok (.iconst (-1), 1) := dq_2 (fd_r fcX11_status (by decide +kernel))
theorem dX11_status_20 : decode cX11_status 20 = .ok (.ireturn, 1) := dq_172 (fd_r fcX11_status (by decide +kernel))
theorem dX11_refuse_0 : decode cX11_refuse 0 = .ok (.iload_n 1, 1) := dq_27 (fd_r fcX11_refuse (by decide +kernel))
theorem dX11_refuse_1 : decode cX11_refuse 1 = .ok (.ifCond .lt 19, 3) := dq_155 (a := 0) (b := 19) (fd_r fcX11_refuse (by decide +kernel)) rfl
theorem dX11_refuse_4 : decode cX11_refuse 4 = .ok (.iload_n 1, 1) := dq_27 (fd_r fcX11_refuse (by decide +kernel))
theorem dX11_refuse_5 : decode cX11_refuse 5 = .ok (.bipush 6, 2) := dq_16 (a := 6) (fd_r fcX11_refuse (by decide +kernel)) rfl
theorem dX11_refuse_7 : decode cX11_refuse 7 = .ok (.if_icmp .ge 13, 3) := dq_162 (a := 0) (b := 13) (fd_r fcX11_refuse (by decide +kernel)) rfl
theorem dX11_refuse_10 : decode cX11_refuse 10 = .ok (.aload_n 0, 1) := dq_42 (fd_r fcX11_refuse (by decide +kernel))
theorem dX11_refuse_11 : decode cX11_refuse 11 = .ok (.getfield 64, 3) := dq_180 (a := 0) (b := 64) (fd_r fcX11_refuse (by decide +kernel)) rfl
theorem dX11_refuse_14 : decode cX11_refuse 14 = .ok (.iload_n 1, 1) := dq_27 (fd_r fcX11_refuse (by decide +kernel))
theorem dX11_refuse_15 : decode cX11_refuse 15 = .ok (.dup2, 1) := dq_92 (fd_r fcX11_refuse (by decide +kernel))
theorem dX11_refuse_16 : decode cX11_refuse 16 = .ok (.iaload, 1) := dq_46 (fd_r fcX11_refuse (by decide +kernel))
theorem dX11_refuse_17 : decode cX11_refuse 17 = .ok (.iconst 1, 1) := dq_4 (fd_r fcX11_refuse (by decide +kernel))
theorem dX11_refuse_18 : decode cX11_refuse 18 = .ok (.iadd, 1) := dq_96 (fd_r fcX11_refuse (by decide +kernel))
theorem dX11_refuse_19 : decode cX11_refuse 19 = .ok (.iastore, 1) := dq_79 (fd_r fcX11_refuse (by decide +kernel))
theorem dX11_refuse_20 : decode cX11_refuse 20 = .ok (.iconst 0, 1) := dq_3 (fd_r fcX11_refuse (by decide +kernel))
theorem dX11_refuse_21 : decode cX11_refuse 21 = .ok (.ireturn, 1) := dq_172 (fd_r fcX11_refuse (by decide +kernel))
theorem dX11_matched_0 : decode cX11_matched 0 = .ok (.aload_n 0, 1) := dq_42 (fd_r fcX11_matched (by decide +kernel))
theorem dX11_matched_1 : decode cX11_matched 1 = .ok (.getfield 71, 3) := dq_180 (a := 0) (b := 71) (fd_r fcX11_matched (by decide +kernel)) rfl
theorem dX11_matched_4 : decode cX11_matched 4 = .ok (.getfield 130, 3) := dq_180 (a := 0) (b := 130) (fd_r fcX11_matched (by decide +kernel)) rfl
theorem dX11_matched_7 : decode cX11_matched 7 = .ok (.ifCond .le 7, 3) := dq_158 (a := 0) (b := 7) (fd_r fcX11_matched (by decide +kernel)) rfl
theorem dX11_matched_10 : decode cX11_matched 10 = .ok (.iconst 1, 1) := dq_4 (fd_r fcX11_matched (by decide +kernel))
theorem dX11_matched_11 : decode cX11_matched 11 = .ok (.goto 4, 3) := dq_167 (a := 0) (b := 4) (fd_r fcX11_matched (by decide +kernel)) rfl
theorem dX11_matched_14 : decode cX11_matched 14 = .ok (.iconst 0, 1) := dq_3 (fd_r fcX11_matched (by decide +kernel))
theorem dX11_matched_15 : decode cX11_matched 15 = .ok (.ireturn, 1) := dq_172 (fd_r fcX11_matched (by decide +kernel))
theorem dX11_isRule_0 : decode cX11_isRule 0 = .ok (.iload_n 0, 1) := dq_26 (fd_r fcX11_isRule (by decide +kernel))
theorem dX11_isRule_1 : decode cX11_isRule 1 = .ok (.ifCond .lt 12, 3) := dq_155 (a := 0) (b := 12) (fd_r fcX11_isRule (by decide +kernel)) rfl
theorem dX11_isRule_4 : decode cX11_isRule 4 = .ok (.iload_n 0, 1) := dq_26 (fd_r fcX11_isRule (by decide +kernel))
theorem dX11_isRule_5 : decode cX11_isRule 5 = .ok (.iconst 4, 1) := dq_7 (fd_r fcX11_isRule (by decide +kernel))
theorem dX11_isRule_6 : decode cX11_isRule 6 = .ok (.if_icmp .ge 7, 3) := dq_162 (a := 0) (b := 7) (fd_r fcX11_isRule (by decide +kernel)) rfl
theorem dX11_isRule_9 : decode cX11_isRule 9 = .ok (.iconst 1, 1) := dq_4 (fd_r fcX11_isRule (by decide +kernel))
theorem dX11_isRule_10 : decode cX11_isRule 10 = .ok (.goto 4, 3) := dq_167 (a := 0) (b := 4) (fd_r fcX11_isRule (by decide +kernel)) rfl
theorem dX11_isRule_13 : decode cX11_isRule 13 = .ok (.iconst 0, 1) := dq_3 (fd_r fcX11_isRule (by decide +kernel))
theorem dX11_isRule_14 : decode cX11_isRule 14 = .ok (.ireturn, 1) := dq_172 (fd_r fcX11_isRule (by decide +kernel))
theorem dX11_isIn_0 : decode cX11_isIn 0 = .ok (.iload_n 0, 1) := dq_26 (fd_r fcX11_isIn (by decide +kernel))
theorem dX11_isIn_1 : decode cX11_isIn 1 = .ok (.iload_n 1, 1) := dq_27 (fd_r fcX11_isIn (by decide +kernel))
theorem dX11_isIn_2 : decode cX11_isIn 2 = .ok (.ishr, 1) := dq_122 (fd_r fcX11_isIn (by decide +kernel))
theorem dX11_isIn_3 : decode cX11_isIn 3 = .ok (.iconst 1, 1) := dq_4 (fd_r fcX11_isIn (by decide +kernel))
theorem dX11_isIn_4 : decode cX11_isIn 4 = .ok (.iand, 1) := dq_126 (fd_r fcX11_isIn (by decide +kernel))
theorem dX11_isIn_5 : decode cX11_isIn 5 = .ok (.ifCond .eq 7, 3) := dq_153 (a := 0) (b := 7) (fd_r fcX11_isIn (by decide +kernel)) rfl
theorem dX11_isIn_8 : decode cX11_isIn 8 = .ok (.iconst 1, 1) := dq_4 (fd_r fcX11_isIn (by decide +kernel))
theorem dX11_isIn_9 : decode cX11_isIn 9 = .ok (.goto 4, 3) := dq_167 (a := 0) (b := 4) (fd_r fcX11_isIn (by decide +kernel)) rfl
theorem dX11_isIn_12 : decode cX11_isIn 12 = .ok (.iconst 0, 1) := dq_3 (fd_r fcX11_isIn (by decide +kernel))
theorem dX11_isIn_13 : decode cX11_isIn 13 = .ok (.ireturn, 1) := dq_172 (fd_r fcX11_isIn (by decide +kernel))
theorem dX11_letterOf_0 : decode cX11_letterOf 0 = .ok (.iload_n 0, 1) := dq_26 (fd_r fcX11_letterOf (by decide +kernel))
theorem dX11_letterOf_1 : decode cX11_letterOf 1 = .ok (.istore_n 2, 1) := dq_61 (fd_r fcX11_letterOf (by decide +kernel))
theorem dX11_letterOf_2 : decode cX11_letterOf 2 = .ok (.iconst 5, 1) := dq_8 (fd_r fcX11_letterOf (by decide +kernel))
theorem dX11_letterOf_3 : decode cX11_letterOf 3 = .ok (.istore_n 3, 1) := dq_62 (fd_r fcX11_letterOf (by decide +kernel))
theorem dX11_letterOf_4 : decode cX11_letterOf 4 = .ok (.iload_n 3, 1) := dq_29 (fd_r fcX11_letterOf (by decide +kernel))
theorem dX11_letterOf_5 : decode cX11_letterOf 5 = .ok (.iload_n 1, 1) := dq_27 (fd_r fcX11_letterOf (by decide +kernel))
theorem dX11_letterOf_6 : decode cX11_letterOf 6 = .ok (.if_icmp .le 14, 3) := dq_164 (a := 0) (b := 14) (fd_r fcX11_letterOf (by decide +kernel)) rfl
theorem dX11_letterOf_9 : decode cX11_letterOf 9 = .ok (.iload_n 2, 1) := dq_28 (fd_r fcX11_letterOf (by decide +kernel))
theorem dX11_letterOf_10 : decode cX11_letterOf 10 = .ok (.bipush 27, 2) := dq_16 (a := 27) (fd_r fcX11_letterOf (by decide +kernel)) rfl
theorem dX11_letterOf_12 : decode cX11_letterOf 12 = .ok (.idiv, 1) := dq_108 (fd_r fcX11_letterOf (by decide +kernel))
theorem dX11_letterOf_13 : decode cX11_letterOf 13 = .ok (.istore_n 2, 1) := dq_61 (fd_r fcX11_letterOf (by decide +kernel))
theorem dX11_letterOf_14 : decode cX11_letterOf 14 = .ok (.iinc 3 (-1), 3) := dq_132 (a := 3) (b := 255) (fd_r fcX11_letterOf (by decide +kernel)) rfl
theorem dX11_letterOf_17 : decode cX11_letterOf 17 = .ok (.goto (-13), 3) := dq_167 (a := 255) (b := 243) (fd_r fcX11_letterOf (by decide +kernel)) rfl
theorem dX11_letterOf_20 : decode cX11_letterOf 20 = .ok (.iload_n 2, 1) := dq_28 (fd_r fcX11_letterOf (by decide +kernel))
theorem dX11_letterOf_21 : decode cX11_letterOf 21 = .ok (.bipush 27, 2) := dq_16 (a := 27) (fd_r fcX11_letterOf (by decide +kernel)) rfl
theorem dX11_letterOf_23 : decode cX11_letterOf 23 = .ok (.irem, 1) := dq_112 (fd_r fcX11_letterOf (by decide +kernel))
theorem dX11_letterOf_24 : decode cX11_letterOf 24 = .ok (.ireturn, 1) := dq_172 (fd_r fcX11_letterOf (by decide +kernel))
theorem dX12_init_0 : decode cX12_init 0 = .ok (.aload_n 0, 1) := dq_42 (fd_r fcX12_init (by decide +kernel))
theorem dX12_init_1 : decode cX12_init 1 = .ok (.invokespecial 1, 3) := dq_183 (a := 0) (b := 1) (fd_r fcX12_init (by decide +kernel)) rfl
theorem dX12_init_4 : decode cX12_init 4 = .ok (.aload_n 0, 1) := dq_42 (fd_r fcX12_init (by decide +kernel))
theorem dX12_init_5 : decode cX12_init 5 = .ok (.sipush 1800, 3) := dq_17 (a := 7) (b := 8) (fd_r fcX12_init (by decide +kernel)) rfl
theorem dX12_init_8 : decode cX12_init 8 = .ok (.newarray .int, 2) := by decide +kernel
theorem dX12_init_10 : decode cX12_init 10 = .ok (.putfield 7, 3) := dq_181 (a := 0) (b := 7) (fd_r fcX12_init (by decide +kernel)) rfl
theorem dX12_init_13 : decode cX12_init 13 = .ok (.aload_n 0, 1) := dq_42 (fd_r fcX12_init (by decide +kernel))
theorem dX12_init_14 : decode cX12_init 14 = .ok (.iconst 0, 1) := dq_3 (fd_r fcX12_init (by decide +kernel))
theorem dX12_init_15 : decode cX12_init 15 = .ok (.putfield 13, 3) := dq_181 (a := 0) (b := 13) (fd_r fcX12_init (by decide +kernel)) rfl
theorem dX12_init_18 : decode cX12_init 18 = .ok (.aload_n 0, 1) := dq_42 (fd_r fcX12_init (by decide +kernel))
theorem dX12_init_19 : decode cX12_init 19 = .ok (.iconst 0, 1) := dq_3 (fd_r fcX12_init (by decide +kernel))
theorem dX12_init_20 : decode cX12_init 20 = .ok (.putfield 17, 3) := dq_181 (a := 0) (b := 17) (fd_r fcX12_init (by decide +kernel)) rfl
theorem dX12_init_23 : decode cX12_init 23 = .ok (.aload_n 0, 1) := dq_42 (fd_r fcX12_init (by decide +kernel))
theorem dX12_init_24 : decode cX12_init 24 = .ok (.iconst 0, 1) := dq_3 (fd_r fcX12_init (by decide +kernel))
theorem dX12_init_25 : decode cX12_init 25 = .ok (.putfield 20, 3) := dq_181 (a := 0) (b := 20) (fd_r fcX12_init (by decide +kernel)) rfl
theorem dX12_init_28 : decode cX12_init 28 = .ok (.aload_n 0, 1) := dq_42 (fd_r fcX12_init (by decide +kernel))
theorem dX12_init_29 : decode cX12_init 29 = .ok (.iconst 0, 1) := dq_3 (fd_r fcX12_init (by decide +kernel))
theorem dX12_init_30 : decode cX12_init 30 = .ok (.putfield 23, 3) := dq_181 (a := 0) (b := 23) (fd_r fcX12_init (by decide +kernel)) rfl
theorem dX12_init_33 : decode cX12_init 33 = .ok (.aload_n 0, 1) := dq_42 (fd_r fcX12_init (by decide +kernel))
theorem dX12_init_34 : decode cX12_init 34 = .ok (.iconst 0, 1) := dq_3 (fd_r fcX12_init (by decide +kernel))
theorem dX12_init_35 : decode cX12_init 35 = .ok (.putfield 26, 3) := dq_181 (a := 0) (b := 26) (fd_r fcX12_init (by decide +kernel)) rfl
theorem dX12_init_38 : decode cX12_init 38 = .ok (.aload_n 0, 1) := dq_42 (fd_r fcX12_init (by decide +kernel))
theorem dX12_init_39 : decode cX12_init 39 = .ok (.iconst 0, 1) := dq_3 (fd_r fcX12_init (by decide +kernel))
theorem dX12_init_40 : decode cX12_init 40 = .ok (.putfield 29, 3) := dq_181 (a := 0) (b := 29) (fd_r fcX12_init (by decide +kernel)) rfl
theorem dX12_init_43 : decode cX12_init 43 = .ok (.aload_n 0, 1) := dq_42 (fd_r fcX12_init (by decide +kernel))
theorem dX12_init_44 : decode cX12_init 44 = .ok (.lconst 0, 1) := dq_9 (fd_r fcX12_init (by decide +kernel))
theorem dX12_init_45 : decode cX12_init 45 = .ok (.putfield 32, 3) := dq_181 (a := 0) (b := 32) (fd_r fcX12_init (by decide +kernel)) rfl
theorem dX12_init_48 : decode cX12_init 48 = .ok (.aload_n 0, 1) := dq_42 (fd_r fcX12_init (by decide +kernel))
theorem dX12_init_49 : decode cX12_init 49 = .ok (.iconst 0, 1) := dq_3 (fd_r fcX12_init (by decide +kernel))
theorem dX12_init_50 : decode cX12_init 50 = .ok (.putfield 36, 3) := dq_181 (a := 0) (b := 36) (fd_r fcX12_init (by decide +kernel)) rfl
theorem dX12_init_53 : decode cX12_init 53 = .ok (.aload_n 0, 1) := dq_42 (fd_r fcX12_init (by decide +kernel))
theorem dX12_init_54 : decode cX12_init 54 = .ok (.iconst (-1), 1) := dq_2 (fd_r fcX12_init (by decide +kernel))
theorem dX12_init_55 : decode cX12_init 55 = .ok (.putfield 39, 3) := dq_181 (a := 0) (b := 39) (fd_r fcX12_init (by decide +kernel)) rfl
theorem dX12_init_58 : decode cX12_init 58 = .ok (.aload_n 0, 1) := dq_42 (fd_r fcX12_init (by decide +kernel))
theorem dX12_init_59 : decode cX12_init 59 = .ok (.iconst 0, 1) := dq_3 (fd_r fcX12_init (by decide +kernel))
theorem dX12_init_60 : decode cX12_init 60 = .ok (.putfield 42, 3) := dq_181 (a := 0) (b := 42) (fd_r fcX12_init (by decide +kernel)) rfl
theorem dX12_init_63 : decode cX12_init 63 = .ok (.aload_n 0, 1) := dq_42 (fd_r fcX12_init (by decide +kernel))
end
section
theorem dX12_init_64 : decode cX12_init 64 = .ok (.iconst (-1), 1) := dq_2 (fd_r fcX12_init (by decide +kernel))
theorem dX12_init_65 : decode cX12_init 65 = .ok (.putfield 45, 3) := dq_181 (a := 0) (b := 45) (fd_r fcX12_init (by decide +kernel)) rfl
theorem dX12_init_68 : decode cX12_init 68 = .ok (.aload_n 0, 1) := dq_42 (fd_r fcX12_init (by decide +kernel))
theorem dX12_init_69 : decode cX12_init 69 = .ok (.iconst (-1), 1) := dq_2 (fd_r fcX12_init (by decide +kernel))
theorem dX12_init_70 : decode cX12_init 70 = .ok (.putfield 48, 3) := dq_181 (a := 0) (b := 48) (fd_r fcX12_init (by decide +kernel)) rfl
theorem dX12_init_73 : decode cX12_init 73 = .ok (.aload_n 0, 1) := dq_42 (fd_r fcX12_init (by decide +kernel))
theorem dX12_init_74 : decode cX12_init 74 = .ok (.iconst 0, 1) := dq_3 (fd_r fcX12_init (by decide +kernel))
theorem dX12_init_75 : decode cX12_init 75 = .ok (.putfield 51, 3) := dq_181 (a := 0) (b := 51) (fd_r fcX12_init (by decide +kernel)) rfl
theorem dX12_init_78 : decode cX12_init 78 = .ok (.aload_n 0, 1) := dq_42 (fd_r fcX12_init (by decide +kernel))
theorem dX12_init_79 : decode cX12_init 79 = .ok (.iconst 2, 1) := dq_5 (fd_r fcX12_init (by decide +kernel))
theorem dX12_init_80 : decode cX12_init 80 = .ok (.newarray .int, 2) := by decide +kernel
theorem dX12_init_82 : decode cX12_init 82 = .ok (.putfield 54, 3) := dq_181 (a := 0) (b := 54) (fd_r fcX12_init (by decide +kernel)) rfl
theorem dX12_init_85 : decode cX12_init 85 = .ok (.aload_n 0, 1) := dq_42 (fd_r fcX12_init (by decide +kernel))
theorem dX12_init_86 : decode cX12_init 86 = .ok (.bipush 10, 2) := dq_16 (a := 10) (fd_r fcX12_init (by decide +kernel)) rfl
theorem dX12_init_88 : decode cX12_init 88 = .ok (.newarray .int, 2) := by decide +kernel
theorem dX12_init_90 : decode cX12_init 90 = .ok (.putfield 57, 3) := dq_181 (a := 0) (b := 57) (fd_r fcX12_init (by decide +kernel)) rfl
theorem dX12_init_93 : decode cX12_init 93 = .ok (.aload_n 0, 1) := dq_42 (fd_r fcX12_init (by decide +kernel))
theorem dX12_init_94 : decode cX12_init 94 = .ok (.bipush 10, 2) := dq_16 (a := 10) (fd_r fcX12_init (by decide +kernel)) rfl
theorem dX12_init_96 : decode cX12_init 96 = .ok (.newarray .int, 2) := by decide +kernel
theorem dX12_init_98 : decode cX12_init 98 = .ok (.putfield 60, 3) := dq_181 (a := 0) (b := 60) (fd_r fcX12_init (by decide +kernel)) rfl
theorem dX12_init_101 : decode cX12_init 101 = .ok (.aload_n 0, 1) := dq_42 (fd_r fcX12_init (by decide +kernel))
theorem dX12_init_102 : decode cX12_init 102 = .ok (.iconst 2, 1) := dq_5 (fd_r fcX12_init (by decide +kernel))
theorem dX12_init_103 : decode cX12_init 103 = .ok (.newarray .int, 2) := by decide +kernel
theorem dX12_init_105 : decode cX12_init 105 = .ok (.putfield 63, 3) := dq_181 (a := 0) (b := 63) (fd_r fcX12_init (by decide +kernel)) rfl
theorem dX12_init_108 : decode cX12_init 108 = .ok (.aload_n 0, 1) := dq_42 (fd_r fcX12_init (by decide +kernel))
theorem dX12_init_109 : decode cX12_init 109 = .ok (.bipush 48, 2) := dq_16 (a := 48) (fd_r fcX12_init (by decide +kernel)) rfl
theorem dX12_init_111 : decode cX12_init 111 = .ok (.newarray .int, 2) := by decide +kernel
theorem dX12_init_113 : decode cX12_init 113 = .ok (.putfield 66, 3) := dq_181 (a := 0) (b := 66) (fd_r fcX12_init (by decide +kernel)) rfl
theorem dX12_init_116 : decode cX12_init 116 = .ok (.aload_n 0, 1) := dq_42 (fd_r fcX12_init (by decide +kernel))
theorem dX12_init_117 : decode cX12_init 117 = .ok (.bipush 48, 2) := dq_16 (a := 48) (fd_r fcX12_init (by decide +kernel)) rfl
theorem dX12_init_119 : decode cX12_init 119 = .ok (.newarray .int, 2) := by decide +kernel
theorem dX12_init_121 : decode cX12_init 121 = .ok (.putfield 69, 3) := dq_181 (a := 0) (b := 69) (fd_r fcX12_init (by decide +kernel)) rfl
theorem dX12_init_124 : decode cX12_init 124 = .ok (.aload_n 0, 1) := dq_42 (fd_r fcX12_init (by decide +kernel))
theorem dX12_init_125 : decode cX12_init 125 = .ok (.bipush 96, 2) := dq_16 (a := 96) (fd_r fcX12_init (by decide +kernel)) rfl
theorem dX12_init_127 : decode cX12_init 127 = .ok (.newarray .int, 2) := by decide +kernel
theorem dX12_init_129 : decode cX12_init 129 = .ok (.putfield 72, 3) := dq_181 (a := 0) (b := 72) (fd_r fcX12_init (by decide +kernel)) rfl
theorem dX12_init_132 : decode cX12_init 132 = .ok (.aload_n 0, 1) := dq_42 (fd_r fcX12_init (by decide +kernel))
theorem dX12_init_133 : decode cX12_init 133 = .ok (.bipush 48, 2) := dq_16 (a := 48) (fd_r fcX12_init (by decide +kernel)) rfl
theorem dX12_init_135 : decode cX12_init 135 = .ok (.newarray .int, 2) := by decide +kernel
theorem dX12_init_137 : decode cX12_init 137 = .ok (.putfield 75, 3) := dq_181 (a := 0) (b := 75) (fd_r fcX12_init (by decide +kernel)) rfl
theorem dX12_init_140 : decode cX12_init 140 = .ok (.aload_n 0, 1) := dq_42 (fd_r fcX12_init (by decide +kernel))
theorem dX12_init_141 : decode cX12_init 141 = .ok (.bipush 48, 2) := dq_16 (a := 48) (fd_r fcX12_init (by decide +kernel)) rfl
theorem dX12_init_143 : decode cX12_init 143 = .ok (.newarray .int, 2) := by decide +kernel
theorem dX12_init_145 : decode cX12_init 145 = .ok (.putfield 78, 3) := dq_181 (a := 0) (b := 78) (fd_r fcX12_init (by decide +kernel)) rfl
theorem dX12_init_148 : decode cX12_init 148 = .ok (.aload_n 0, 1) := dq_42 (fd_r fcX12_init (by decide +kernel))
theorem dX12_init_149 : decode cX12_init 149 = .ok (.iconst 2, 1) := dq_5 (fd_r fcX12_init (by decide +kernel))
theorem dX12_init_150 : decode cX12_init 150 = .ok (.newarray .int, 2) := by decide +kernel
theorem dX12_init_152 : decode cX12_init 152 = .ok (.putfield 81, 3) := dq_181 (a := 0) (b := 81) (fd_r fcX12_init (by decide +kernel)) rfl
theorem dX12_init_155 : decode cX12_init 155 = .ok (.aload_n 0, 1) := dq_42 (fd_r fcX12_init (by decide +kernel))
theorem dX12_init_156 : decode cX12_init 156 = .ok (.bipush 8, 2) := dq_16 (a := 8) (fd_r fcX12_init (by decide +kernel)) rfl
theorem dX12_init_158 : decode cX12_init 158 = .ok (.newarray .int, 2) := by decide +kernel
theorem dX12_init_160 : decode cX12_init 160 = .ok (.putfield 84, 3) := dq_181 (a := 0) (b := 84) (fd_r fcX12_init (by decide +kernel)) rfl
theorem dX12_init_163 : decode cX12_init 163 = .ok (.aload_n 0, 1) := dq_42 (fd_r fcX12_init (by decide +kernel))
theorem dX12_init_164 : decode cX12_init 164 = .ok (.iconst 2, 1) := dq_5 (fd_r fcX12_init (by decide +kernel))
theorem dX12_init_165 : decode cX12_init 165 = .ok (.newarray .int, 2) := by decide +kernel
theorem dX12_init_167 : decode cX12_init 167 = .ok (.putfield 87, 3) := dq_181 (a := 0) (b := 87) (fd_r fcX12_init (by decide +kernel)) rfl
theorem dX12_init_170 : decode cX12_init 170 = .ok (.aload_n 0, 1) := dq_42 (fd_r fcX12_init (by decide +kernel))
theorem dX12_init_171 : decode cX12_init 171 = .ok (.bipush 24, 2) := dq_16 (a := 24) (fd_r fcX12_init (by decide +kernel)) rfl
theorem dX12_init_173 : decode cX12_init 173 = .ok (.newarray .int, 2) := by decide +kernel
theorem dX12_init_175 : decode cX12_init 175 = .ok (.putfield 90, 3) := dq_181 (a := 0) (b := 90) (fd_r fcX12_init (by decide +kernel)) rfl
theorem dX12_init_178 : decode cX12_init 178 = .ok (.aload_n 0, 1) := dq_42 (fd_r fcX12_init (by decide +kernel))
theorem dX12_init_179 : decode cX12_init 179 = .ok (.iconst 2, 1) := dq_5 (fd_r fcX12_init (by decide +kernel))
theorem dX12_init_180 : decode cX12_init 180 = .ok (.newarray .int, 2) := by decide +kernel
theorem dX12_init_182 : decode cX12_init 182 = .ok (.putfield 93, 3) := dq_181 (a := 0) (b := 93) (fd_r fcX12_init (by decide +kernel)) rfl
theorem dX12_init_185 : decode cX12_init 185 = .ok (.aload_n 0, 1) := dq_42 (fd_r fcX12_init (by decide +kernel))
theorem dX12_init_186 : decode cX12_init 186 = .ok (.iconst 2, 1) := dq_5 (fd_r fcX12_init (by decide +kernel))
theorem dX12_init_187 : decode cX12_init 187 = .ok (.newarray .int, 2) := by decide +kernel
theorem dX12_init_189 : decode cX12_init 189 = .ok (.putfield 96, 3) := dq_181 (a := 0) (b := 96) (fd_r fcX12_init (by decide +kernel)) rfl
theorem dX12_init_192 : decode cX12_init 192 = .ok (.aload_n 0, 1) := dq_42 (fd_r fcX12_init (by decide +kernel))
theorem dX12_init_193 : decode cX12_init 193 = .ok (.bipush 96, 2) := dq_16 (a := 96) (fd_r fcX12_init (by decide +kernel)) rfl
theorem dX12_init_195 : decode cX12_init 195 = .ok (.newarray .int, 2) := by decide +kernel
theorem dX12_init_197 : decode cX12_init 197 = .ok (.putfield 99, 3) := dq_181 (a := 0) (b := 99) (fd_r fcX12_init (by decide +kernel)) rfl
theorem dX12_init_200 : decode cX12_init 200 = .ok (.aload_n 0, 1) := dq_42 (fd_r fcX12_init (by decide +kernel))
theorem dX12_init_201 : decode cX12_init 201 = .ok (.bipush 96, 2) := dq_16 (a := 96) (fd_r fcX12_init (by decide +kernel)) rfl
theorem dX12_init_203 : decode cX12_init 203 = .ok (.newarray .int, 2) := by decide +kernel
theorem dX12_init_205 : decode cX12_init 205 = .ok (.putfield 102, 3) := dq_181 (a := 0) (b := 102) (fd_r fcX12_init (by decide +kernel)) rfl
theorem dX12_init_208 : decode cX12_init 208 = .ok (.aload_n 0, 1) := dq_42 (fd_r fcX12_init (by decide +kernel))
theorem dX12_init_209 : decode cX12_init 209 = .ok (.sipush 5600, 3) := dq_17 (a := 21) (b := 224) (fd_r fcX12_init (by decide +kernel)) rfl
theorem dX12_init_212 : decode cX12_init 212 = .ok (.newarray .int, 2) := by decide +kernel
theorem dX12_init_214 : decode cX12_init 214 = .ok (.putfield 105, 3) := dq_181 (a := 0) (b := 105) (fd_r fcX12_init (by decide +kernel)) rfl
theorem dX12_init_217 : decode cX12_init 217 = .ok (.aload_n 0, 1) := dq_42 (fd_r fcX12_init (by decide +kernel))
theorem dX12_init_218 : decode cX12_init 218 = .ok (.sipush 5600, 3) := dq_17 (a := 21) (b := 224) (fd_r fcX12_init (by decide +kernel)) rfl
theorem dX12_init_221 : decode cX12_init 221 = .ok (.newarray .int, 2) := by decide +kernel
theorem dX12_init_223 : decode cX12_init 223 = .ok (.putfield 108, 3) := dq_181 (a := 0) (b := 108) (fd_r fcX12_init (by decide +kernel)) rfl
theorem dX12_init_226 : decode cX12_init 226 = .ok (.aload_n 0, 1) := dq_42 (fd_r fcX12_init (by decide +kernel))
theorem dX12_init_227 : decode cX12_init 227 = .ok (.sipush 5600, 3) := dq_17 (a := 21) (b := 224) (fd_r fcX12_init (by decide +kernel)) rfl
theorem dX12_init_230 : decode cX12_init 230 = .ok (.newarray .int, 2) := by decide +kernel
theorem dX12_init_232 : decode cX12_init 232 = .ok (.putfield 111, 3) := dq_181 (a := 0) (b := 111) (fd_r fcX12_init (by decide +kernel)) rfl
theorem dX12_init_235 : decode cX12_init 235 = .ok (.aload_n 0, 1) := dq_42 (fd_r fcX12_init (by decide +kernel))
theorem dX12_init_236 : decode cX12_init 236 = .ok (.bipush 8, 2) := dq_16 (a := 8) (fd_r fcX12_init (by decide +kernel)) rfl
theorem dX12_init_238 : decode cX12_init 238 = .ok (.newarray .long, 2) := by decide +kernel
theorem dX12_init_240 : decode cX12_init 240 = .ok (.putfield 114, 3) := dq_181 (a := 0) (b := 114) (fd_r fcX12_init (by decide +kernel)) rfl
theorem dX12_init_243 : decode cX12_init 243 = .ok (.aload_n 0, 1) := dq_42 (fd_r fcX12_init (by decide +kernel))
theorem dX12_init_244 : decode cX12_init 244 = .ok (.bipush 48, 2) := dq_16 (a := 48) (fd_r fcX12_init (by decide +kernel)) rfl
theorem dX12_init_246 : decode cX12_init 246 = .ok (.newarray .long, 2) := by decide +kernel
theorem dX12_init_248 : decode cX12_init 248 = .ok (.putfield 118, 3) := dq_181 (a := 0) (b := 118) (fd_r fcX12_init (by decide +kernel)) rfl
theorem dX12_init_251 : decode cX12_init 251 = .ok (.aload_n 0, 1) := dq_42 (fd_r fcX12_init (by decide +kernel))
theorem dX12_init_252 : decode cX12_init 252 = .ok (.iconst 0, 1) := dq_3 (fd_r fcX12_init (by decide +kernel))
theorem dX12_init_253 : decode cX12_init 253 = .ok (.putfield 121, 3) := dq_181 (a := 0) (b := 121) (fd_r fcX12_init (by decide +kernel)) rfl
theorem dX12_init_256 : decode cX12_init 256 = .ok (.aload_n 0, 1) := dq_42 (fd_r fcX12_init (by decide +kernel))
theorem dX12_init_257 : decode cX12_init 257 = .ok (.iconst 1, 1) := dq_4 (fd_r fcX12_init (by decide +kernel))
theorem dX12_init_258 : decode cX12_init 258 = .ok (.putfield 124, 3) := dq_181 (a := 0) (b := 124) (fd_r fcX12_init (by decide +kernel)) rfl
theorem dX12_init_261 : decode cX12_init 261 = .ok (.aload_n 0, 1) := dq_42 (fd_r fcX12_init (by decide +kernel))
theorem dX12_init_262 : decode cX12_init 262 = .ok (.iconst 0, 1) := dq_3 (fd_r fcX12_init (by decide +kernel))
theorem dX12_init_263 : decode cX12_init 263 = .ok (.putfield 127, 3) := dq_181 (a := 0) (b := 127) (fd_r fcX12_init (by decide +kernel)) rfl
theorem dX12_init_266 : decode cX12_init 266 = .ok (.aload_n 0, 1) := dq_42 (fd_r fcX12_init (by decide +kernel))
theorem dX12_init_267 : decode cX12_init 267 = .ok (.bipush 10, 2) := dq_16 (a := 10) (fd_r fcX12_init (by decide +kernel)) rfl
theorem dX12_init_269 : decode cX12_init 269 = .ok (.newarray .int, 2) := by decide +kernel
theorem dX12_init_271 : decode cX12_init 271 = .ok (.putfield 131, 3) := dq_181 (a := 0) (b := 131) (fd_r fcX12_init (by decide +kernel)) rfl
theorem dX12_init_274 : decode cX12_init 274 = .ok (.aload_n 0, 1) := dq_42 (fd_r fcX12_init (by decide +kernel))
theorem dX12_init_275 : decode cX12_init 275 = .ok (.bipush 10, 2) := dq_16 (a := 10) (fd_r fcX12_init (by decide +kernel)) rfl
theorem dX12_init_277 : decode cX12_init 277 = .ok (.newarray .int, 2) := by decide +kernel
theorem dX12_init_279 : decode cX12_init 279 = .ok (.putfield 134, 3) := dq_181 (a := 0) (b := 134) (fd_r fcX12_init (by decide +kernel)) rfl
theorem dX12_init_282 : decode cX12_init 282 = .ok (.aload_n 0, 1) := dq_42 (fd_r fcX12_init (by decide +kernel))
theorem dX12_init_283 : decode cX12_init 283 = .ok (.bipush 10, 2) := dq_16 (a := 10) (fd_r fcX12_init (by decide +kernel)) rfl
theorem dX12_init_285 : decode cX12_init 285 = .ok (.newarray .int, 2) := by decide +kernel
theorem dX12_init_287 : decode cX12_init 287 = .ok (.putfield 137, 3) := dq_181 (a := 0) (b := 137) (fd_r fcX12_init (by decide +kernel)) rfl
theorem dX12_init_290 : decode cX12_init 290 = .ok (.aload_n 0, 1) := dq_42 (fd_r fcX12_init (by decide +kernel))
theorem dX12_init_291 : decode cX12_init 291 = .ok (.bipush 10, 2) := dq_16 (a := 10) (fd_r fcX12_init (by decide +kernel)) rfl
theorem dX12_init_293 : decode cX12_init 293 = .ok (.newarray .int, 2) := by decide +kernel
theorem dX12_init_295 : decode cX12_init 295 = .ok (.putfield 140, 3) := dq_181 (a := 0) (b := 140) (fd_r fcX12_init (by decide +kernel)) rfl
theorem dX12_init_298 : decode cX12_init 298 = .ok (.aload_n 0, 1) := dq_42 (fd_r fcX12_init (by decide +kernel))
theorem dX12_init_299 : decode cX12_init 299 = .ok (.iconst 0, 1) := dq_3 (fd_r fcX12_init (by decide +kernel))
theorem dX12_init_300 : decode cX12_init 300 = .ok (.putfield 143, 3) := dq_181 (a := 0) (b := 143) (fd_r fcX12_init (by decide +kernel)) rfl
theorem dX12_init_303 : decode cX12_init 303 = .ok (.aload_n 0, 1) := dq_42 (fd_r fcX12_init (by decide +kernel))
theorem dX12_init_304 : decode cX12_init 304 = .ok (.iconst 0, 1) := dq_3 (fd_r fcX12_init (by decide +kernel))
theorem dX12_init_305 : decode cX12_init 305 = .ok (.putfield 146, 3) := dq_181 (a := 0) (b := 146) (fd_r fcX12_init (by decide +kernel)) rfl
theorem dX12_init_308 : decode cX12_init 308 = .ok (.aload_n 0, 1) := dq_42 (fd_r fcX12_init (by decide +kernel))
theorem dX12_init_309 : decode cX12_init 309 = .ok (.bipush 6, 2) := dq_16 (a := 6) (fd_r fcX12_init (by decide +kernel)) rfl
theorem dX12_init_311 : decode cX12_init 311 = .ok (.newarray .int, 2) := by decide +kernel
theorem dX12_init_313 : decode cX12_init 313 = .ok (.putfield 149, 3) := dq_181 (a := 0) (b := 149) (fd_r fcX12_init (by decide +kernel)) rfl
theorem dX12_init_316 : decode cX12_init 316 = .ok (.aload_n 0, 1) := dq_42 (fd_r fcX12_init (by decide +kernel))
theorem dX12_init_317 : decode cX12_init 317 = .ok (.bipush 12, 2) := dq_16 (a := 12) (fd_r fcX12_init (by decide +kernel)) rfl
theorem dX12_init_319 : decode cX12_init 319 = .ok (.newarray .int, 2) := by decide +kernel
theorem dX12_init_321 : decode cX12_init 321 = .ok (.putfield 152, 3) := dq_181 (a := 0) (b := 152) (fd_r fcX12_init (by decide +kernel)) rfl
theorem dX12_init_324 : decode cX12_init 324 = .ok (.aload_n 0, 1) := dq_42 (fd_r fcX12_init (by decide +kernel))
theorem dX12_init_325 : decode cX12_init 325 = .ok (.sipush 900, 3) := dq_17 (a := 3) (b := 132) (fd_r fcX12_init (by decide +kernel)) rfl
theorem dX12_init_328 : decode cX12_init 328 = .ok (.newarray .int, 2) := by decide +kernel
theorem dX12_init_330 : decode cX12_init 330 = .ok (.putfield 155, 3) := dq_181 (a := 0) (b := 155) (fd_r fcX12_init (by decide +kernel)) rfl
theorem dX12_init_333 : decode cX12_init 333 = .ok (.aload_n 0, 1) := dq_42 (fd_r fcX12_init (by decide +kernel))
theorem dX12_init_334 : decode cX12_init 334 = .ok (.sipush 8040, 3) := dq_17 (a := 31) (b := 104) (fd_r fcX12_init (by decide +kernel)) rfl
theorem dX12_init_337 : decode cX12_init 337 = .ok (.newarray .int, 2) := by decide +kernel
theorem dX12_init_339 : decode cX12_init 339 = .ok (.putfield 158, 3) := dq_181 (a := 0) (b := 158) (fd_r fcX12_init (by decide +kernel)) rfl
theorem dX12_init_342 : decode cX12_init 342 = .ok (.aload_n 0, 1) := dq_42 (fd_r fcX12_init (by decide +kernel))
theorem dX12_init_343 : decode cX12_init 343 = .ok (.sipush 8040, 3) := dq_17 (a := 31) (b := 104) (fd_r fcX12_init (by decide +kernel)) rfl
theorem dX12_init_346 : decode cX12_init 346 = .ok (.newarray .int, 2) := by decide +kernel
theorem dX12_init_348 : decode cX12_init 348 = .ok (.putfield 161, 3) := dq_181 (a := 0) (b := 161) (fd_r fcX12_init (by decide +kernel)) rfl
theorem dX12_init_351 : decode cX12_init 351 = .ok (.aload_n 0, 1) := dq_42 (fd_r fcX12_init (by decide +kernel))
theorem dX12_init_352 : decode cX12_init 352 = .ok (.iconst 4, 1) := dq_7 (fd_r fcX12_init (by decide +kernel))
theorem dX12_init_353 : decode cX12_init 353 = .ok (.newarray .int, 2) := by decide +kernel
theorem dX12_init_355 : decode cX12_init 355 = .ok (.putfield 164, 3) := dq_181 (a := 0) (b := 164) (fd_r fcX12_init (by decide +kernel)) rfl
theorem dX12_init_358 : decode cX12_init 358 = .ok (.aload_n 0, 1) := dq_42 (fd_r fcX12_init (by decide +kernel))
theorem dX12_init_359 : decode cX12_init 359 = .ok (.sipush 4096, 3) := dq_17 (a := 16) (b := 0) (fd_r fcX12_init (by decide +kernel)) rfl
theorem dX12_init_362 : decode cX12_init 362 = .ok (.newarray .int, 2) := by decide +kernel
theorem dX12_init_364 : decode cX12_init 364 = .ok (.putfield 167, 3) := dq_181 (a := 0) (b := 167) (fd_r fcX12_init (by decide +kernel)) rfl
theorem dX12_init_367 : decode cX12_init 367 = .ok (.aload_n 0, 1) := dq_42 (fd_r fcX12_init (by decide +kernel))
theorem dX12_init_368 : decode cX12_init 368 = .ok (.iconst 0, 1) := dq_3 (fd_r fcX12_init (by decide +kernel))
theorem dX12_init_369 : decode cX12_init 369 = .ok (.putfield 170, 3) := dq_181 (a := 0) (b := 170) (fd_r fcX12_init (by decide +kernel)) rfl
theorem dX12_init_372 : decode cX12_init 372 = .ok (.aload_n 0, 1) := dq_42 (fd_r fcX12_init (by decide +kernel))
theorem dX12_init_373 : decode cX12_init 373 = .ok (.bipush 22, 2) := dq_16 (a := 22) (fd_r fcX12_init (by decide +kernel)) rfl
theorem dX12_init_375 : decode cX12_init 375 = .ok (.newarray .int, 2) := by decide +kernel
theorem dX12_init_377 : decode cX12_init 377 = .ok (.putfield 173, 3) := dq_181 (a := 0) (b := 173) (fd_r fcX12_init (by decide +kernel)) rfl
theorem dX12_init_380 : decode cX12_init 380 = .ok (.aload_n 0, 1) := dq_42 (fd_r fcX12_init (by decide +kernel))
theorem dX12_init_381 : decode cX12_init 381 = .ok (.sipush 264, 3) := dq_17 (a := 1) (b := 8) (fd_r fcX12_init (by decide +kernel)) rfl
theorem dX12_init_384 : decode cX12_init 384 = .ok (.newarray .int, 2) := by decide +kernel
theorem dX12_init_386 : decode cX12_init 386 = .ok (.putfield 176, 3) := dq_181 (a := 0) (b := 176) (fd_r fcX12_init (by decide +kernel)) rfl
theorem dX12_init_389 : decode cX12_init 389 = .ok (.aload_n 0, 1) := dq_42 (fd_r fcX12_init (by decide +kernel))
theorem dX12_init_390 : decode cX12_init 390 = .ok (.bipush 22, 2) := dq_16 (a := 22) (fd_r fcX12_init (by decide +kernel)) rfl
theorem dX12_init_392 : decode cX12_init 392 = .ok (.newarray .int, 2) := by decide +kernel
theorem dX12_init_394 : decode cX12_init 394 = .ok (.putfield 179, 3) := dq_181 (a := 0) (b := 179) (fd_r fcX12_init (by decide +kernel)) rfl
theorem dX12_init_397 : decode cX12_init 397 = .ok (.aload_n 0, 1) := dq_42 (fd_r fcX12_init (by decide +kernel))
theorem dX12_init_398 : decode cX12_init 398 = .ok (.bipush 22, 2) := dq_16 (a := 22) (fd_r fcX12_init (by decide +kernel)) rfl
theorem dX12_init_400 : decode cX12_init 400 = .ok (.newarray .int, 2) := by decide +kernel
theorem dX12_init_402 : decode cX12_init 402 = .ok (.putfield 182, 3) := dq_181 (a := 0) (b := 182) (fd_r fcX12_init (by decide +kernel)) rfl
theorem dX12_init_405 : decode cX12_init 405 = .ok (.aload_n 0, 1) := dq_42 (fd_r fcX12_init (by decide +kernel))
theorem dX12_init_406 : decode cX12_init 406 = .ok (.bipush 22, 2) := dq_16 (a := 22) (fd_r fcX12_init (by decide +kernel)) rfl
theorem dX12_init_408 : decode cX12_init 408 = .ok (.newarray .int, 2) := by decide +kernel
theorem dX12_init_410 : decode cX12_init 410 = .ok (.putfield 185, 3) := dq_181 (a := 0) (b := 185) (fd_r fcX12_init (by decide +kernel)) rfl
theorem dX12_init_413 : decode cX12_init 413 = .ok (.aload_n 0, 1) := dq_42 (fd_r fcX12_init (by decide +kernel))
theorem dX12_init_414 : decode cX12_init 414 = .ok (.sipush 2640, 3) := dq_17 (a := 10) (b := 80) (fd_r fcX12_init (by decide +kernel)) rfl
theorem dX12_init_417 : decode cX12_init 417 = .ok (.newarray .int, 2) := by decide +kernel
theorem dX12_init_419 : decode cX12_init 419 = .ok (.putfield 188, 3) := dq_181 (a := 0) (b := 188) (fd_r fcX12_init (by decide +kernel)) rfl
theorem dX12_init_422 : decode cX12_init 422 = .ok (.aload_n 0, 1) := dq_42 (fd_r fcX12_init (by decide +kernel))
theorem dX12_init_423 : decode cX12_init 423 = .ok (.iconst 0, 1) := dq_3 (fd_r fcX12_init (by decide +kernel))
theorem dX12_init_424 : decode cX12_init 424 = .ok (.putfield 191, 3) := dq_181 (a := 0) (b := 191) (fd_r fcX12_init (by decide +kernel)) rfl
theorem dX12_init_427 : decode cX12_init 427 = .ok (.aload_n 0, 1) := dq_42 (fd_r fcX12_init (by decide +kernel))
theorem dX12_init_428 : decode cX12_init 428 = .ok (.iconst 0, 1) := dq_3 (fd_r fcX12_init (by decide +kernel))
theorem dX12_init_429 : decode cX12_init 429 = .ok (.putfield 194, 3) := dq_181 (a := 0) (b := 194) (fd_r fcX12_init (by decide +kernel)) rfl
theorem dX12_init_432 : decode cX12_init 432 = .ok (.aload_n 0, 1) := dq_42 (fd_r fcX12_init (by decide +kernel))
theorem dX12_init_433 : decode cX12_init 433 = .ok (.lconst 1, 1) := dq_10 (fd_r fcX12_init (by decide +kernel))
theorem dX12_init_434 : decode cX12_init 434 = .ok (.putfield 197, 3) := dq_181 (a := 0) (b := 197) (fd_r fcX12_init (by decide +kernel)) rfl
theorem dX12_init_437 : decode cX12_init 437 = .ok (.aload_n 0, 1) := dq_42 (fd_r fcX12_init (by decide +kernel))
theorem dX12_init_438 : decode cX12_init 438 = .ok (.iconst 0, 1) := dq_3 (fd_r fcX12_init (by decide +kernel))
theorem dX12_init_439 : decode cX12_init 439 = .ok (.putfield 200, 3) := dq_181 (a := 0) (b := 200) (fd_r fcX12_init (by decide +kernel)) rfl
theorem dX12_init_442 : decode cX12_init 442 = .ok (.aload_n 0, 1) := dq_42 (fd_r fcX12_init (by decide +kernel))
theorem dX12_init_443 : decode cX12_init 443 = .ok (.sipush 8040, 3) := dq_17 (a := 31) (b := 104) (fd_r fcX12_init (by decide +kernel)) rfl
theorem dX12_init_446 : decode cX12_init 446 = .ok (.newarray .int, 2) := by decide +kernel
theorem dX12_init_448 : decode cX12_init 448 = .ok (.putfield 203, 3) := dq_181 (a := 0) (b := 203) (fd_r fcX12_init (by decide +kernel)) rfl
theorem dX12_init_451 : decode cX12_init 451 = .ok (.aload_n 0, 1) := dq_42 (fd_r fcX12_init (by decide +kernel))
theorem dX12_init_452 : decode cX12_init 452 = .ok (.iconst 4, 1) := dq_7 (fd_r fcX12_init (by decide +kernel))
theorem dX12_init_453 : decode cX12_init 453 = .ok (.newarray .int, 2) := by decide +kernel
theorem dX12_init_455 : decode cX12_init 455 = .ok (.putfield 206, 3) := dq_181 (a := 0) (b := 206) (fd_r fcX12_init (by decide +kernel)) rfl
theorem dX12_init_458 : decode cX12_init 458 = .ok (.aload_n 0, 1) := dq_42 (fd_r fcX12_init (by decide +kernel))
theorem dX12_init_459 : decode cX12_init 459 = .ok (.bipush 12, 2) := dq_16 (a := 12) (fd_r fcX12_init (by decide +kernel)) rfl
theorem dX12_init_461 : decode cX12_init 461 = .ok (.newarray .int, 2) := by decide +kernel
theorem dX12_init_463 : decode cX12_init 463 = .ok (.putfield 209, 3) := dq_181 (a := 0) (b := 209) (fd_r fcX12_init (by decide +kernel)) rfl
theorem dX12_init_466 : decode cX12_init 466 = .ok (.aload_n 0, 1) := dq_42 (fd_r fcX12_init (by decide +kernel))
theorem dX12_init_467 : decode cX12_init 467 = .ok (.iconst 0, 1) := dq_3 (fd_r fcX12_init (by decide +kernel))
theorem dX12_init_468 : decode cX12_init 468 = .ok (.putfield 212, 3) := dq_181 (a := 0) (b := 212) (fd_r fcX12_init (by decide +kernel)) rfl
theorem dX12_init_471 : decode cX12_init 471 = .ok (.aload_n 0, 1) := dq_42 (fd_r fcX12_init (by decide +kernel))
theorem dX12_init_472 : decode cX12_init 472 = .ok (.iconst 4, 1) := dq_7 (fd_r fcX12_init (by decide +kernel))
theorem dX12_init_473 : decode cX12_init 473 = .ok (.newarray .int, 2) := by decide +kernel
theorem dX12_init_475 : decode cX12_init 475 = .ok (.putfield 215, 3) := dq_181 (a := 0) (b := 215) (fd_r fcX12_init (by decide +kernel)) rfl
theorem dX12_init_478 : decode cX12_init 478 = .ok (.aload_n 0, 1) := dq_42 (fd_r fcX12_init (by decide +kernel))
theorem dX12_init_479 : decode cX12_init 479 = .ok (.sipush 4096, 3) := dq_17 (a := 16) (b := 0) (fd_r fcX12_init (by decide +kernel)) rfl
theorem dX12_init_482 : decode cX12_init 482 = .ok (.newarray .int, 2) := by decide +kernel
theorem dX12_init_484 : decode cX12_init 484 = .ok (.putfield 218, 3) := dq_181 (a := 0) (b := 218) (fd_r fcX12_init (by decide +kernel)) rfl
theorem dX12_init_487 : decode cX12_init 487 = .ok (.aload_n 0, 1) := dq_42 (fd_r fcX12_init (by decide +kernel))
theorem dX12_init_488 : decode cX12_init 488 = .ok (.sipush 1800, 3) := dq_17 (a := 7) (b := 8) (fd_r fcX12_init (by decide +kernel)) rfl
theorem dX12_init_491 : decode cX12_init 491 = .ok (.newarray .int, 2) := by decide +kernel
theorem dX12_init_493 : decode cX12_init 493 = .ok (.putfield 221, 3) := dq_181 (a := 0) (b := 221) (fd_r fcX12_init (by decide +kernel)) rfl
theorem dX12_init_496 : decode cX12_init 496 = .ok (.aload_n 0, 1) := dq_42 (fd_r fcX12_init (by decide +kernel))
theorem dX12_init_497 : decode cX12_init 497 = .ok (.iconst 0, 1) := dq_3 (fd_r fcX12_init (by decide +kernel))
theorem dX12_init_498 : decode cX12_init 498 = .ok (.putfield 224, 3) := dq_181 (a := 0) (b := 224) (fd_r fcX12_init (by decide +kernel)) rfl
theorem dX12_init_501 : decode cX12_init 501 = .ok (.aload_n 0, 1) := dq_42 (fd_r fcX12_init (by decide +kernel))
theorem dX12_init_502 : decode cX12_init 502 = .ok (.bipush 40, 2) := dq_16 (a := 40) (fd_r fcX12_init (by decide +kernel)) rfl
theorem dX12_init_504 : decode cX12_init 504 = .ok (.newarray .int, 2) := by decide +kernel
theorem dX12_init_506 : decode cX12_init 506 = .ok (.putfield 227, 3) := dq_181 (a := 0) (b := 227) (fd_r fcX12_init (by decide +kernel)) rfl
theorem dX12_init_509 : decode cX12_init 509 = .ok (.aload_n 0, 1) := dq_42 (fd_r fcX12_init (by decide +kernel))
theorem dX12_init_510 : decode cX12_init 510 = .ok (.bipush 40, 2) := dq_16 (a := 40) (fd_r fcX12_init (by decide +kernel)) rfl
theorem dX12_init_512 : decode cX12_init 512 = .ok (.newarray .int, 2) := by decide +kernel
theorem dX12_init_514 : decode cX12_init 514 = .ok (.putfield 230, 3) := dq_181 (a := 0) (b := 230) (fd_r fcX12_init (by decide +kernel)) rfl
theorem dX12_init_517 : decode cX12_init 517 = .ok (.aload_n 0, 1) := dq_42 (fd_r fcX12_init (by decide +kernel))
theorem dX12_init_518 : decode cX12_init 518 = .ok (.iconst 0, 1) := dq_3 (fd_r fcX12_init (by decide +kernel))
theorem dX12_init_519 : decode cX12_init 519 = .ok (.putfield 233, 3) := dq_181 (a := 0) (b := 233) (fd_r fcX12_init (by decide +kernel)) rfl
theorem dX12_init_522 : decode cX12_init 522 = .ok (.aload_n 0, 1) := dq_42 (fd_r fcX12_init (by decide +kernel))
theorem dX12_init_523 : decode cX12_init 523 = .ok (.iconst 0, 1) := dq_3 (fd_r fcX12_init (by decide +kernel))
theorem dX12_init_524 : decode cX12_init 524 = .ok (.putfield 236, 3) := dq_181 (a := 0) (b := 236) (fd_r fcX12_init (by decide +kernel)) rfl
theorem dX12_init_527 : decode cX12_init 527 = .ok (.aload_n 0, 1) := dq_42 (fd_r fcX12_init (by decide +kernel))
theorem dX12_init_528 : decode cX12_init 528 = .ok (.ldc 239, 2) := dq_18 (a := 239) (fd_r fcX12_init (by decide +kernel))
theorem dX12_init_530 : decode cX12_init 530 = .ok (.newarray .int, 2) := by decide +kernel
theorem dX12_init_532 : decode cX12_init 532 = .ok (.putfield 240, 3) := dq_181 (a := 0) (b := 240) (fd_r fcX12_init (by decide +kernel)) rfl
theorem dX12_init_535 : decode cX12_init 535 = .ok (.aload_n 0, 1) := dq_42 (fd_r fcX12_init (by decide +kernel))
theorem dX12_init_536 : decode cX12_init 536 = .ok (.iconst 0, 1) := dq_3 (fd_r fcX12_init (by decide +kernel))
theorem dX12_init_537 : decode cX12_init 537 = .ok (.putfield 243, 3) := dq_181 (a := 0) (b := 243) (fd_r fcX12_init (by decide +kernel)) rfl
theorem dX12_init_540 : decode cX12_init 540 = .ok (.aload_n 0, 1) := dq_42 (fd_r fcX12_init (by decide +kernel))
theorem dX12_init_541 : decode cX12_init 541 = .ok (.sipush 4096, 3) := dq_17 (a := 16) (b := 0) (fd_r fcX12_init (by decide +kernel)) rfl
theorem dX12_init_544 : decode cX12_init 544 = .ok (.newarray .int, 2) := by decide +kernel
theorem dX12_init_546 : decode cX12_init 546 = .ok (.putfield 246, 3) := dq_181 (a := 0) (b := 246) (fd_r fcX12_init (by decide +kernel)) rfl
theorem dX12_init_549 : decode cX12_init 549 = .ok (.aload_n 0, 1) := dq_42 (fd_r fcX12_init (by decide +kernel))
theorem dX12_init_550 : decode cX12_init 550 = .ok (.iconst 0, 1) := dq_3 (fd_r fcX12_init (by decide +kernel))
theorem dX12_init_551 : decode cX12_init 551 = .ok (.putfield 249, 3) := dq_181 (a := 0) (b := 249) (fd_r fcX12_init (by decide +kernel)) rfl
theorem dX12_init_554 : decode cX12_init 554 = .ok (.aload_n 0, 1) := dq_42 (fd_r fcX12_init (by decide +kernel))
theorem dX12_init_555 : decode cX12_init 555 = .ok (.ldc 239, 2) := dq_18 (a := 239) (fd_r fcX12_init (by decide +kernel))
theorem dX12_init_557 : decode cX12_init 557 = .ok (.newarray .int, 2) := by decide +kernel
theorem dX12_init_559 : decode cX12_init 559 = .ok (.putfield 252, 3) := dq_181 (a := 0) (b := 252) (fd_r fcX12_init (by decide +kernel)) rfl
theorem dX12_init_562 : decode cX12_init 562 = .ok (.aload_n 0, 1) := dq_42 (fd_r fcX12_init (by decide +kernel))
theorem dX12_init_563 : decode cX12_init 563 = .ok (.ldc 239, 2) := dq_18 (a := 239) (fd_r fcX12_init (by decide +kernel))
theorem dX12_init_565 : decode cX12_init 565 = .ok (.newarray .int, 2) := by decide +kernel
theorem dX12_init_567 : decode cX12_init 567 = .ok (.putfield 255, 3) := dq_181 (a := 0) (b := 255) (fd_r fcX12_init (by decide +kernel)) rfl
theorem dX12_init_570 : decode cX12_init 570 = .ok (.aload_n 0, 1) := dq_42 (fd_r fcX12_init (by decide +kernel))
theorem dX12_init_571 : decode cX12_init 571 = .ok (.iconst 0, 1) := dq_3 (fd_r fcX12_init (by decide +kernel))
theorem dX12_init_572 : decode cX12_init 572 = .ok (.putfield 258, 3) := dq_181 (a := 1) (b := 2) (fd_r fcX12_init (by decide +kernel)) rfl
theorem dX12_init_575 : decode cX12_init 575 = .ok (.aload_n 0, 1) := dq_42 (fd_r fcX12_init (by decide +kernel))
theorem dX12_init_576 : decode cX12_init 576 = .ok (.ldc 239, 2) := dq_18 (a := 239) (fd_r fcX12_init (by decide +kernel))
theorem dX12_init_578 : decode cX12_init 578 = .ok (.newarray .int, 2) := by decide +kernel
theorem dX12_init_580 : decode cX12_init 580 = .ok (.putfield 261, 3) := dq_181 (a := 1) (b := 5) (fd_r fcX12_init (by decide +kernel)) rfl
theorem dX12_init_583 : decode cX12_init 583 = .ok (.aload_n 0, 1) := dq_42 (fd_r fcX12_init (by decide +kernel))
theorem dX12_init_584 : decode cX12_init 584 = .ok (.bipush 40, 2) := dq_16 (a := 40) (fd_r fcX12_init (by decide +kernel)) rfl
theorem dX12_init_586 : decode cX12_init 586 = .ok (.newarray .int, 2) := by decide +kernel
theorem dX12_init_588 : decode cX12_init 588 = .ok (.putfield 264, 3) := dq_181 (a := 1) (b := 8) (fd_r fcX12_init (by decide +kernel)) rfl
theorem dX12_init_591 : decode cX12_init 591 = .ok (.aload_n 0, 1) := dq_42 (fd_r fcX12_init (by decide +kernel))
theorem dX12_init_592 : decode cX12_init 592 = .ok (.bipush 40, 2) := dq_16 (a := 40) (fd_r fcX12_init (by decide +kernel)) rfl
theorem dX12_init_594 : decode cX12_init 594 = .ok (.newarray .int, 2) := by decide +kernel
theorem dX12_init_596 : decode cX12_init 596 = .ok (.putfield 267, 3) := dq_181 (a := 1) (b := 11) (fd_r fcX12_init (by decide +kernel)) rfl
theorem dX12_init_599 : decode cX12_init 599 = .ok (.aload_n 0, 1) := dq_42 (fd_r fcX12_init (by decide +kernel))
theorem dX12_init_600 : decode cX12_init 600 = .ok (.bipush 40, 2) := dq_16 (a := 40) (fd_r fcX12_init (by decide +kernel)) rfl
theorem dX12_init_602 : decode cX12_init 602 = .ok (.newarray .int, 2) := by decide +kernel
theorem dX12_init_604 : decode cX12_init 604 = .ok (.putfield 270, 3) := dq_181 (a := 1) (b := 14) (fd_r fcX12_init (by decide +kernel)) rfl
theorem dX12_init_607 : decode cX12_init 607 = .ok (.aload_n 0, 1) := dq_42 (fd_r fcX12_init (by decide +kernel))
theorem dX12_init_608 : decode cX12_init 608 = .ok (.sipush 1000, 3) := dq_17 (a := 3) (b := 232) (fd_r fcX12_init (by decide +kernel)) rfl
theorem dX12_init_611 : decode cX12_init 611 = .ok (.newarray .int, 2) := by decide +kernel
theorem dX12_init_613 : decode cX12_init 613 = .ok (.putfield 273, 3) := dq_181 (a := 1) (b := 17) (fd_r fcX12_init (by decide +kernel)) rfl
theorem dX12_init_616 : decode cX12_init 616 = .ok (.aload_n 0, 1) := dq_42 (fd_r fcX12_init (by decide +kernel))
theorem dX12_init_617 : decode cX12_init 617 = .ok (.iconst 0, 1) := dq_3 (fd_r fcX12_init (by decide +kernel))
theorem dX12_init_618 : decode cX12_init 618 = .ok (.putfield 276, 3) := dq_181 (a := 1) (b := 20) (fd_r fcX12_init (by decide +kernel)) rfl
theorem dX12_init_621 : decode cX12_init 621 = .ok (.aload_n 0, 1) := dq_42 (fd_r fcX12_init (by decide +kernel))
theorem dX12_init_622 : decode cX12_init 622 = .ok (.iconst 0, 1) := dq_3 (fd_r fcX12_init (by decide +kernel))
theorem dX12_init_623 : decode cX12_init 623 = .ok (.putfield 279, 3) := dq_181 (a := 1) (b := 23) (fd_r fcX12_init (by decide +kernel)) rfl
theorem dX12_init_626 : decode cX12_init 626 = .ok (.aload_n 0, 1) := dq_42 (fd_r fcX12_init (by decide +kernel))
theorem dX12_init_627 : decode cX12_init 627 = .ok (.iconst 0, 1) := dq_3 (fd_r fcX12_init (by decide +kernel))
theorem dX12_init_628 : decode cX12_init 628 = .ok (.putfield 282, 3) := dq_181 (a := 1) (b := 26) (fd_r fcX12_init (by decide +kernel)) rfl
theorem dX12_init_631 : decode cX12_init 631 = .ok (.aload_n 0, 1) := dq_42 (fd_r fcX12_init (by decide +kernel))
theorem dX12_init_632 : decode cX12_init 632 = .ok (.iconst 0, 1) := dq_3 (fd_r fcX12_init (by decide +kernel))
theorem dX12_init_633 : decode cX12_init 633 = .ok (.putfield 285, 3) := dq_181 (a := 1) (b := 29) (fd_r fcX12_init (by decide +kernel)) rfl
theorem dX12_init_636 : decode cX12_init 636 = .ok (.aload_n 0, 1) := dq_42 (fd_r fcX12_init (by decide +kernel))
theorem dX12_init_637 : decode cX12_init 637 = .ok (.bipush 12, 2) := dq_16 (a := 12) (fd_r fcX12_init (by decide +kernel)) rfl
theorem dX12_init_639 : decode cX12_init 639 = .ok (.newarray .int, 2) := by decide +kernel
theorem dX12_init_641 : decode cX12_init 641 = .ok (.putfield 288, 3) := dq_181 (a := 1) (b := 32) (fd_r fcX12_init (by decide +kernel)) rfl
theorem dX12_init_644 : decode cX12_init 644 = .ok (.aload_n 0, 1) := dq_42 (fd_r fcX12_init (by decide +kernel))
theorem dX12_init_645 : decode cX12_init 645 = .ok (.iconst 0, 1) := dq_3 (fd_r fcX12_init (by decide +kernel))
theorem dX12_init_646 : decode cX12_init 646 = .ok (.putfield 291, 3) := dq_181 (a := 1) (b := 35) (fd_r fcX12_init (by decide +kernel)) rfl
theorem dX12_init_649 : decode cX12_init 649 = .ok (.aload_n 0, 1) := dq_42 (fd_r fcX12_init (by decide +kernel))
theorem dX12_init_650 : decode cX12_init 650 = .ok (.bipush 16, 2) := dq_16 (a := 16) (fd_r fcX12_init (by decide +kernel)) rfl
theorem dX12_init_652 : decode cX12_init 652 = .ok (.newarray .int, 2) := by decide +kernel
theorem dX12_init_654 : decode cX12_init 654 = .ok (.putfield 294, 3) := dq_181 (a := 1) (b := 38) (fd_r fcX12_init (by decide +kernel)) rfl
theorem dX12_init_657 : decode cX12_init 657 = .ok (.aload_n 0, 1) := dq_42 (fd_r fcX12_init (by decide +kernel))
theorem dX12_init_658 : decode cX12_init 658 = .ok (.bipush 16, 2) := dq_16 (a := 16) (fd_r fcX12_init (by decide +kernel)) rfl
theorem dX12_init_660 : decode cX12_init 660 = .ok (.newarray .int, 2) := by decide +kernel
theorem dX12_init_662 : decode cX12_init 662 = .ok (.putfield 297, 3) := dq_181 (a := 1) (b := 41) (fd_r fcX12_init (by decide +kernel)) rfl
theorem dX12_init_665 : decode cX12_init 665 = .ok (.aload_n 0, 1) := dq_42 (fd_r fcX12_init (by decide +kernel))
theorem dX12_init_666 : decode cX12_init 666 = .ok (.sipush 256, 3) := dq_17 (a := 1) (b := 0) (fd_r fcX12_init (by decide +kernel)) rfl
theorem dX12_init_669 : decode cX12_init 669 = .ok (.newarray .int, 2) := by decide +kernel
theorem dX12_init_671 : decode cX12_init 671 = .ok (.putfield 300, 3) := dq_181 (a := 1) (b := 44) (fd_r fcX12_init (by decide +kernel)) rfl
theorem dX12_init_674 : decode cX12_init 674 = .ok (.aload_n 0, 1) := dq_42 (fd_r fcX12_init (by decide +kernel))
theorem dX12_init_675 : decode cX12_init 675 = .ok (.sipush 256, 3) := dq_17 (a := 1) (b := 0) (fd_r fcX12_init (by decide +kernel)) rfl
theorem dX12_init_678 : decode cX12_init 678 = .ok (.newarray .int, 2) := by decide +kernel
theorem dX12_init_680 : decode cX12_init 680 = .ok (.putfield 303, 3) := dq_181 (a := 1) (b := 47) (fd_r fcX12_init (by decide +kernel)) rfl
theorem dX12_init_683 : decode cX12_init 683 = .ok (.aload_n 0, 1) := dq_42 (fd_r fcX12_init (by decide +kernel))
theorem dX12_init_684 : decode cX12_init 684 = .ok (.bipush 13, 2) := dq_16 (a := 13) (fd_r fcX12_init (by decide +kernel)) rfl
theorem dX12_init_686 : decode cX12_init 686 = .ok (.newarray .int, 2) := by decide +kernel
theorem dX12_init_688 : decode cX12_init 688 = .ok (.putfield 306, 3) := dq_181 (a := 1) (b := 50) (fd_r fcX12_init (by decide +kernel)) rfl
theorem dX12_init_691 : decode cX12_init 691 = .ok (.aload_n 0, 1) := dq_42 (fd_r fcX12_init (by decide +kernel))
theorem dX12_init_692 : decode cX12_init 692 = .ok (.invokevirtual 309, 3) := dq_182 (a := 1) (b := 53) (fd_r fcX12_init (by decide +kernel)) rfl
theorem dX12_init_695 : decode cX12_init 695 = .ok (.return_, 1) := dq_177 (fd_r fcX12_init (by decide +kernel))
theorem dX12_is_0 : decode cX12_is 0 = .ok (.iload_n 0, 1) := dq_26 (fd_r fcX12_is (by decide +kernel))
theorem dX12_is_1 : decode cX12_is 1 = .ok (.iload_n 1, 1) := dq_27 (fd_r fcX12_is (by decide +kernel))
theorem dX12_is_2 : decode cX12_is 2 = .ok (.if_icmp .lt 12, 3) := dq_161 (a := 0) (b := 12) (fd_r fcX12_is (by decide +kernel)) rfl
theorem dX12_is_5 : decode cX12_is 5 = .ok (.iload_n 0, 1) := dq_26 (fd_r fcX12_is (by decide +kernel))
theorem dX12_is_6 : decode cX12_is 6 = .ok (.iload_n 2, 1) := dq_28 (fd_r fcX12_is (by decide +kernel))
theorem dX12_is_7 : decode cX12_is 7 = .ok (.if_icmp .gt 7, 3) := dq_163 (a := 0) (b := 7) (fd_r fcX12_is (by decide +kernel)) rfl
theorem dX12_is_10 : decode cX12_is 10 = .ok (.iconst 1, 1) := dq_4 (fd_r fcX12_is (by decide +kernel))
theorem dX12_is_11 : decode cX12_is 11 = .ok (.goto 4, 3) := dq_167 (a := 0) (b := 4) (fd_r fcX12_is (by decide +kernel)) rfl
theorem dX12_is_14 : decode cX12_is 14 = .ok (.iconst 0, 1) := dq_3 (fd_r fcX12_is (by decide +kernel))
theorem dX12_is_15 : decode cX12_is 15 = .ok (.ireturn, 1) := dq_172 (fd_r fcX12_is (by decide +kernel))
theorem dX12_put_0 : decode cX12_put 0 = .ok (.bipush 24, 2) := dq_16 (a := 24) (fd_r fcX12_put (by decide +kernel)) rfl
theorem dX12_put_2 : decode cX12_put 2 = .ok (.istore_n 2, 1) := dq_61 (fd_r fcX12_put (by decide +kernel))
theorem dX12_put_3 : decode cX12_put 3 = .ok (.iload_n 2, 1) := dq_28 (fd_r fcX12_put (by decide +kernel))
theorem dX12_put_4 : decode cX12_put 4 = .ok (.ifCond .lt 35, 3) := dq_155 (a := 0) (b := 35) (fd_r fcX12_put (by decide +kernel)) rfl
theorem dX12_put_7 : decode cX12_put 7 = .ok (.aload_n 0, 1) := dq_42 (fd_r fcX12_put (by decide +kernel))
theorem dX12_put_8 : decode cX12_put 8 = .ok (.getfield 7, 3) := dq_180 (a := 0) (b := 7) (fd_r fcX12_put (by decide +kernel)) rfl
theorem dX12_put_11 : decode cX12_put 11 = .ok (.aload_n 0, 1) := dq_42 (fd_r fcX12_put (by decide +kernel))
theorem dX12_put_12 : decode cX12_put 12 = .ok (.getfield 13, 3) := dq_180 (a := 0) (b := 13) (fd_r fcX12_put (by decide +kernel)) rfl
theorem dX12_put_15 : decode cX12_put 15 = .ok (.iload_n 1, 1) := dq_27 (fd_r fcX12_put (by decide +kernel))
theorem dX12_put_16 : decode cX12_put 16 = .ok (.iload_n 2, 1) := dq_28 (fd_r fcX12_put (by decide +kernel))
theorem dX12_put_17 : decode cX12_put 17 = .ok (.ishr, 1) := dq_122 (fd_r fcX12_put (by decide +kernel))
theorem dX12_put_18 : decode cX12_put 18 = .ok (.sipush 255, 3) := dq_17 (a := 0) (b := 255) (fd_r fcX12_put (by decide +kernel)) rfl
theorem dX12_put_21 : decode cX12_put 21 = .ok (.iand, 1) := dq_126 (fd_r fcX12_put (by decide +kernel))
theorem dX12_put_22 : decode cX12_put 22 = .ok (.iastore, 1) := dq_79 (fd_r fcX12_put (by decide +kernel))
theorem dX12_put_23 : decode cX12_put 23 = .ok (.aload_n 0, 1) := dq_42 (fd_r fcX12_put (by decide +kernel))
theorem dX12_put_24 : decode cX12_put 24 = .ok (.dup, 1) := dq_89 (fd_r fcX12_put (by decide +kernel))
theorem dX12_put_25 : decode cX12_put 25 = .ok (.getfield 13, 3) := dq_180 (a := 0) (b := 13) (fd_r fcX12_put (by decide +kernel)) rfl
theorem dX12_put_28 : decode cX12_put 28 = .ok (.iconst 1, 1) := dq_4 (fd_r fcX12_put (by decide +kernel))
theorem dX12_put_29 : decode cX12_put 29 = .ok (.iadd, 1) := dq_96 (fd_r fcX12_put (by decide +kernel))
theorem dX12_put_30 : decode cX12_put 30 = .ok (.putfield 13, 3) := dq_181 (a := 0) (b := 13) (fd_r fcX12_put (by decide +kernel)) rfl
theorem dX12_put_33 : decode cX12_put 33 = .ok (.iinc 2 (-8), 3) := dq_132 (a := 2) (b := 248) (fd_r fcX12_put (by decide +kernel)) rfl
theorem dX12_put_36 : decode cX12_put 36 = .ok (.goto (-33), 3) := dq_167 (a := 255) (b := 223) (fd_r fcX12_put (by decide +kernel)) rfl
theorem dX12_put_39 : decode cX12_put 39 = .ok (.return_, 1) := dq_177 (fd_r fcX12_put (by decide +kernel))
theorem dX12_feed_0 : decode cX12_feed 0 = .ok (.aload_n 0, 1) := dq_42 (fd_r fcX12_feed (by decide +kernel))
theorem dX12_feed_1 : decode cX12_feed 1 = .ok (.getfield 13, 3) := dq_180 (a := 0) (b := 13) (fd_r fcX12_feed (by decide +kernel)) rfl
theorem dX12_feed_4 : decode cX12_feed 4 = .ok (.bipush 20, 2) := dq_16 (a := 20) (fd_r fcX12_feed (by decide +kernel)) rfl
theorem dX12_feed_6 : decode cX12_feed 6 = .ok (.iadd, 1) := dq_96 (fd_r fcX12_feed (by decide +kernel))
theorem dX12_feed_7 : decode cX12_feed 7 = .ok (.sipush 1600, 3) := dq_17 (a := 6) (b := 64) (fd_r fcX12_feed (by decide +kernel)) rfl
theorem dX12_feed_10 : decode cX12_feed 10 = .ok (.if_icmp .le 9, 3) := dq_164 (a := 0) (b := 9) (fd_r fcX12_feed (by decide +kernel)) rfl
theorem dX12_feed_13 : decode cX12_feed 13 = .ok (.aload_n 0, 1) := dq_42 (fd_r fcX12_feed (by decide +kernel))
theorem dX12_feed_14 : decode cX12_feed 14 = .ok (.iconst 0, 1) := dq_3 (fd_r fcX12_feed (by decide +kernel))
theorem dX12_feed_15 : decode cX12_feed 15 = .ok (.invokevirtual 312, 3) := dq_182 (a := 1) (b := 56) (fd_r fcX12_feed (by decide +kernel)) rfl
theorem dX12_feed_18 : decode cX12_feed 18 = .ok (.ireturn, 1) := dq_172 (fd_r fcX12_feed (by decide +kernel))
theorem dX12_feed_19 : decode cX12_feed 19 = .ok (.aload_n 0, 1) := dq_42 (fd_r fcX12_feed (by decide +kernel))
theorem dX12_feed_20 : decode cX12_feed 20 = .ok (.iload_n 1, 1) := dq_27 (fd_r fcX12_feed (by decide +kernel))
theorem dX12_feed_21 : decode cX12_feed 21 = .ok (.invokevirtual 316, 3) := dq_182 (a := 1) (b := 60) (fd_r fcX12_feed (by decide +kernel)) rfl
theorem dX12_feed_24 : decode cX12_feed 24 = .ok (.aload_n 0, 1) := dq_42 (fd_r fcX12_feed (by decide +kernel))
theorem dX12_feed_25 : decode cX12_feed 25 = .ok (.iload_n 2, 1) := dq_28 (fd_r fcX12_feed (by decide +kernel))
theorem dX12_feed_26 : decode cX12_feed 26 = .ok (.invokevirtual 316, 3) := dq_182 (a := 1) (b := 60) (fd_r fcX12_feed (by decide +kernel)) rfl
theorem dX12_feed_29 : decode cX12_feed 29 = .ok (.aload_n 0, 1) := dq_42 (fd_r fcX12_feed (by decide +kernel))
theorem dX12_feed_30 : decode cX12_feed 30 = .ok (.iload_n 3, 1) := dq_29 (fd_r fcX12_feed (by decide +kernel))
theorem dX12_feed_31 : decode cX12_feed 31 = .ok (.invokevirtual 316, 3) := dq_182 (a := 1) (b := 60) (fd_r fcX12_feed (by decide +kernel)) rfl
theorem dX12_feed_34 : decode cX12_feed 34 = .ok (.aload_n 0, 1) := dq_42 (fd_r fcX12_feed (by decide +kernel))
theorem dX12_feed_35 : decode cX12_feed 35 = .ok (.iload 4, 2) := dq_21 (a := 4) (fd_r fcX12_feed (by decide +kernel))
theorem dX12_feed_37 : decode cX12_feed 37 = .ok (.invokevirtual 316, 3) := dq_182 (a := 1) (b := 60) (fd_r fcX12_feed (by decide +kernel)) rfl
theorem dX12_feed_40 : decode cX12_feed 40 = .ok (.aload_n 0, 1) := dq_42 (fd_r fcX12_feed (by decide +kernel))
theorem dX12_feed_41 : decode cX12_feed 41 = .ok (.iload 5, 2) := dq_21 (a := 5) (fd_r fcX12_feed (by decide +kernel))
theorem dX12_feed_43 : decode cX12_feed 43 = .ok (.invokevirtual 316, 3) := dq_182 (a := 1) (b := 60) (fd_r fcX12_feed (by decide +kernel)) rfl
theorem dX12_feed_46 : decode cX12_feed 46 = .ok (.aload_n 0, 1) := dq_42 (fd_r fcX12_feed (by decide +kernel))
theorem dX12_feed_47 : decode cX12_feed 47 = .ok (.getfield 13, 3) := dq_180 (a := 0) (b := 13) (fd_r fcX12_feed (by decide +kernel)) rfl
theorem dX12_feed_50 : decode cX12_feed 50 = .ok (.ireturn, 1) := dq_172 (fd_r fcX12_feed (by decide +kernel))
theorem dX12_end_0 : decode cX12_end 0 = .ok (.iload_n 1, 1) := dq_27 (fd_r fcX12_end (by decide +kernel))
theorem dX12_end_1 : decode cX12_end 1 = .ok (.ifCond .lt 11, 3) := dq_155 (a := 0) (b := 11) (fd_r fcX12_end (by decide +kernel)) rfl
theorem dX12_end_4 : decode cX12_end 4 = .ok (.iload_n 1, 1) := dq_27 (fd_r fcX12_end (by decide +kernel))
theorem dX12_end_5 : decode cX12_end 5 = .ok (.aload_n 0, 1) := dq_42 (fd_r fcX12_end (by decide +kernel))
theorem dX12_end_6 : decode cX12_end 6 = .ok (.getfield 13, 3) := dq_180 (a := 0) (b := 13) (fd_r fcX12_end (by decide +kernel)) rfl
theorem dX12_end_9 : decode cX12_end 9 = .ok (.if_icmp .le 17, 3) := dq_164 (a := 0) (b := 17) (fd_r fcX12_end (by decide +kernel)) rfl
theorem dX12_end_12 : decode cX12_end 12 = .ok (.aload_n 0, 1) := dq_42 (fd_r fcX12_end (by decide +kernel))
theorem dX12_end_13 : decode cX12_end 13 = .ok (.iconst 0, 1) := dq_3 (fd_r fcX12_end (by decide +kernel))
theorem dX12_end_14 : decode cX12_end 14 = .ok (.invokevirtual 312, 3) := dq_182 (a := 1) (b := 56) (fd_r fcX12_end (by decide +kernel)) rfl
theorem dX12_end_17 : decode cX12_end 17 = .ok (.ifCond .lt 7, 3) := dq_155 (a := 0) (b := 7) (fd_r fcX12_end (by decide +kernel)) rfl
theorem dX12_end_24 : decode cX12_end 24 = .ok (.iconst 0, 1) := dq_3 (fd_r fcX12_end (by decide +kernel))
theorem dX12_end_25 : decode cX12_end 25 = .ok (.ireturn, 1) := dq_172 (fd_r fcX12_end (by decide +kernel))
theorem dX12_end_26 : decode cX12_end 26 = .ok (.aload_n 0, 1) := dq_42 (fd_r fcX12_end (by decide +kernel))
theorem dX12_end_27 : decode cX12_end 27 = .ok (.iload_n 1, 1) := dq_27 (fd_r fcX12_end (by decide +kernel))
theorem dX12_end_28 : decode cX12_end 28 = .ok (.putfield 13, 3) := dq_181 (a := 0) (b := 13) (fd_r fcX12_end (by decide +kernel)) rfl
theorem dX12_end_31 : decode cX12_end 31 = .ok (.iconst 1, 1) := dq_4 (fd_r fcX12_end (by decide +kernel))
theorem dX12_end_32 : decode cX12_end 32 = .ok (.ireturn, 1) := dq_172 (fd_r fcX12_end (by decide +kernel))
theorem dX12_blame_0 : decode cX12_blame 0 = .ok (.aload_n 0, 1) := dq_42 (fd_r fcX12_blame (by decide +kernel))
theorem dX12_blame_1 : decode cX12_blame 1 = .ok (.getfield 36, 3) := dq_180 (a := 0) (b := 36) (fd_r fcX12_blame (by decide +kernel)) rfl
theorem dX12_blame_4 : decode cX12_blame 4 = .ok (.ifCond .le 4, 3) := dq_158 (a := 0) (b := 4) (fd_r fcX12_blame (by decide +kernel)) rfl
theorem dX12_blame_7 : decode cX12_blame 7 = .ok (.return_, 1) := dq_177 (fd_r fcX12_blame (by decide +kernel))
theorem dX12_blame_8 : decode cX12_blame 8 = .ok (.aload_n 0, 1) := dq_42 (fd_r fcX12_blame (by decide +kernel))
theorem dX12_blame_9 : decode cX12_blame 9 = .ok (.iload_n 1, 1) := dq_27 (fd_r fcX12_blame (by decide +kernel))
theorem dX12_blame_10 : decode cX12_blame 10 = .ok (.putfield 36, 3) := dq_181 (a := 0) (b := 36) (fd_r fcX12_blame (by decide +kernel)) rfl
theorem dX12_blame_13 : decode cX12_blame 13 = .ok (.aload_n 0, 1) := dq_42 (fd_r fcX12_blame (by decide +kernel))
theorem dX12_blame_14 : decode cX12_blame 14 = .ok (.iload_n 2, 1) := dq_28 (fd_r fcX12_blame (by decide +kernel))
theorem dX12_blame_15 : decode cX12_blame 15 = .ok (.putfield 39, 3) := dq_181 (a := 0) (b := 39) (fd_r fcX12_blame (by decide +kernel)) rfl
theorem dX12_blame_18 : decode cX12_blame 18 = .ok (.return_, 1) := dq_177 (fd_r fcX12_blame (by decide +kernel))
theorem dX12_isLetter_0 : decode cX12_isLetter 0 = .ok (.iload_n 0, 1) := dq_26 (fd_r fcX12_isLetter (by decide +kernel))
theorem dX12_isLetter_1 : decode cX12_isLetter 1 = .ok (.bipush 97, 2) := dq_16 (a := 97) (fd_r fcX12_isLetter (by decide +kernel)) rfl
theorem dX12_isLetter_3 : decode cX12_isLetter 3 = .ok (.if_icmp .lt 13, 3) := dq_161 (a := 0) (b := 13) (fd_r fcX12_isLetter (by decide +kernel)) rfl
theorem dX12_isLetter_6 : decode cX12_isLetter 6 = .ok (.iload_n 0, 1) := dq_26 (fd_r fcX12_isLetter (by decide +kernel))
theorem dX12_isLetter_7 : decode cX12_isLetter 7 = .ok (.bipush 122, 2) := dq_16 (a := 122) (fd_r fcX12_isLetter (by decide +kernel)) rfl
theorem dX12_isLetter_9 : decode cX12_isLetter 9 = .ok (.if_icmp .gt 7, 3) := dq_163 (a := 0) (b := 7) (fd_r fcX12_isLetter (by decide +kernel)) rfl
theorem dX12_isLetter_12 : decode cX12_isLetter 12 = .ok (.iconst 1, 1) := dq_4 (fd_r fcX12_isLetter (by decide +kernel))
theorem dX12_isLetter_13 : decode cX12_isLetter 13 = .ok (.goto 4, 3) := dq_167 (a := 0) (b := 4) (fd_r fcX12_isLetter (by decide +kernel)) rfl
theorem dX12_isLetter_16 : decode cX12_isLetter 16 = .ok (.iconst 0, 1) := dq_3 (fd_r fcX12_isLetter (by decide +kernel))
theorem dX12_isLetter_17 : decode cX12_isLetter 17 = .ok (.ireturn, 1) := dq_172 (fd_r fcX12_isLetter (by decide +kernel))
theorem dX12_isDigit_0 : decode cX12_isDigit 0 = .ok (.iload_n 0, 1) := dq_26 (fd_r fcX12_isDigit (by decide +kernel))
theorem dX12_isDigit_1 : decode cX12_isDigit 1 = .ok (.bipush 48, 2) := dq_16 (a := 48) (fd_r fcX12_isDigit (by decide +kernel)) rfl
theorem dX12_isDigit_3 : decode cX12_isDigit 3 = .ok (.if_icmp .lt 13, 3) := dq_161 (a := 0) (b := 13) (fd_r fcX12_isDigit (by decide +kernel)) rfl
theorem dX12_isDigit_6 : decode cX12_isDigit 6 = .ok (.iload_n 0, 1) := dq_26 (fd_r fcX12_isDigit (by decide +kernel))
end
end
section
section
theorem dX12_isDigit_7 : decode cX12_isDigit 7 = .ok (.bipush 57, 2) := dq_16 (a := 57) (fd_r fcX12_isDigit (by decide +kernel)) rfl
theorem dX12_isDigit_9 : decode cX12_isDigit 9 = .ok (.if_icmp .gt 7, 3) := dq_163 (a := 0) (b := 7) (fd_r fcX12_isDigit (by decide +kernel)) rfl
theorem dX12_isDigit_12 : decode cX12_isDigit 12 = .ok (.iconst 1, 1) := dq_4 (fd_r fcX12_isDigit (by decide +kernel))
theorem dX12_isDigit_13 : decode cX12_isDigit 13 = .ok (.goto 4, 3) := dq_167 (a := 0) (b := 4) (fd_r fcX12_isDigit (by decide +kernel)) rfl
theorem dX12_isDigit_16 : decode cX12_isDigit 16 = .ok (.iconst 0, 1) := dq_3 (fd_r fcX12_isDigit (by decide +kernel))
theorem dX12_isDigit_17 : decode cX12_isDigit 17 = .ok (.ireturn, 1) := dq_172 (fd_r fcX12_isDigit (by decide +kernel))
theorem dX12_lex_0 : decode cX12_lex 0 = .ok (.aload_n 0, 1) := dq_42 (fd_r fcX12_lex (by decide +kernel))
theorem dX12_lex_1 : decode cX12_lex 1 = .ok (.getfield 48, 3) := dq_180 (a := 0) (b := 48) (fd_r fcX12_lex (by decide +kernel)) rfl
theorem dX12_lex_4 : decode cX12_lex 4 = .ok (.iconst (-1), 1) := dq_2 (fd_r fcX12_lex (by decide +kernel))
theorem dX12_lex_5 : decode cX12_lex 5 = .ok (.if_icmp .eq 12, 3) := dq_159 (a := 0) (b := 12) (fd_r fcX12_lex (by decide +kernel)) rfl
theorem dX12_lex_8 : decode cX12_lex 8 = .ok (.aload_n 0, 1) := dq_42 (fd_r fcX12_lex (by decide +kernel))
theorem dX12_lex_9 : decode cX12_lex 9 = .ok (.iconst 1, 1) := dq_4 (fd_r fcX12_lex (by decide +kernel))
theorem dX12_lex_10 : decode cX12_lex 10 = .ok (.aload_n 0, 1) := dq_42 (fd_r fcX12_lex (by decide +kernel))
theorem dX12_lex_11 : decode cX12_lex 11 = .ok (.getfield 48, 3) := dq_180 (a := 0) (b := 48) (fd_r fcX12_lex (by decide +kernel)) rfl
theorem dX12_lex_14 : decode cX12_lex 14 = .ok (.invokevirtual 320, 3) := dq_182 (a := 1) (b := 64) (fd_r fcX12_lex (by decide +kernel)) rfl
theorem dX12_lex_17 : decode cX12_lex 17 = .ok (.return_, 1) := dq_177 (fd_r fcX12_lex (by decide +kernel))
theorem dX12_ahead_0 : decode cX12_ahead 0 = .ok (.aload_n 0, 1) := dq_42 (fd_r fcX12_ahead (by decide +kernel))
theorem dX12_ahead_1 : decode cX12_ahead 1 = .ok (.getfield 26, 3) := dq_180 (a := 0) (b := 26) (fd_r fcX12_ahead (by decide +kernel)) rfl
theorem dX12_ahead_4 : decode cX12_ahead 4 = .ok (.istore_n 1, 1) := dq_60 (fd_r fcX12_ahead (by decide +kernel))
theorem dX12_ahead_5 : decode cX12_ahead 5 = .ok (.iload_n 1, 1) := dq_27 (fd_r fcX12_ahead (by decide +kernel))
theorem dX12_ahead_6 : decode cX12_ahead 6 = .ok (.aload_n 0, 1) := dq_42 (fd_r fcX12_ahead (by decide +kernel))
theorem dX12_ahead_7 : decode cX12_ahead 7 = .ok (.getfield 17, 3) := dq_180 (a := 0) (b := 17) (fd_r fcX12_ahead (by decide +kernel)) rfl
theorem dX12_ahead_10 : decode cX12_ahead 10 = .ok (.if_icmp .ge 31, 3) := dq_162 (a := 0) (b := 31) (fd_r fcX12_ahead (by decide +kernel)) rfl
theorem dX12_ahead_13 : decode cX12_ahead 13 = .ok (.aload_n 0, 1) := dq_42 (fd_r fcX12_ahead (by decide +kernel))
theorem dX12_ahead_14 : decode cX12_ahead 14 = .ok (.getfield 7, 3) := dq_180 (a := 0) (b := 7) (fd_r fcX12_ahead (by decide +kernel)) rfl
theorem dX12_ahead_17 : decode cX12_ahead 17 = .ok (.iload_n 1, 1) := dq_27 (fd_r fcX12_ahead (by decide +kernel))
theorem dX12_ahead_18 : decode cX12_ahead 18 = .ok (.iaload, 1) := dq_46 (fd_r fcX12_ahead (by decide +kernel))
theorem dX12_ahead_19 : decode cX12_ahead 19 = .ok (.bipush 32, 2) := dq_16 (a := 32) (fd_r fcX12_ahead (by decide +kernel)) rfl
theorem dX12_ahead_21 : decode cX12_ahead 21 = .ok (.if_icmp .eq 14, 3) := dq_159 (a := 0) (b := 14) (fd_r fcX12_ahead (by decide +kernel)) rfl
theorem dX12_ahead_24 : decode cX12_ahead 24 = .ok (.aload_n 0, 1) := dq_42 (fd_r fcX12_ahead (by decide +kernel))
theorem dX12_ahead_25 : decode cX12_ahead 25 = .ok (.getfield 7, 3) := dq_180 (a := 0) (b := 7) (fd_r fcX12_ahead (by decide +kernel)) rfl
theorem dX12_ahead_28 : decode cX12_ahead 28 = .ok (.iload_n 1, 1) := dq_27 (fd_r fcX12_ahead (by decide +kernel))
theorem dX12_ahead_29 : decode cX12_ahead 29 = .ok (.iaload, 1) := dq_46 (fd_r fcX12_ahead (by decide +kernel))
theorem dX12_ahead_30 : decode cX12_ahead 30 = .ok (.bipush 10, 2) := dq_16 (a := 10) (fd_r fcX12_ahead (by decide +kernel)) rfl
theorem dX12_ahead_32 : decode cX12_ahead 32 = .ok (.if_icmp .ne 9, 3) := dq_160 (a := 0) (b := 9) (fd_r fcX12_ahead (by decide +kernel)) rfl
theorem dX12_ahead_35 : decode cX12_ahead 35 = .ok (.iinc 1 1, 3) := dq_132 (a := 1) (b := 1) (fd_r fcX12_ahead (by decide +kernel)) rfl
theorem dX12_ahead_38 : decode cX12_ahead 38 = .ok (.goto (-33), 3) := dq_167 (a := 255) (b := 223) (fd_r fcX12_ahead (by decide +kernel)) rfl
theorem dX12_ahead_41 : decode cX12_ahead 41 = .ok (.aload_n 0, 1) := dq_42 (fd_r fcX12_ahead (by decide +kernel))
theorem dX12_ahead_42 : decode cX12_ahead 42 = .ok (.iload_n 1, 1) := dq_27 (fd_r fcX12_ahead (by decide +kernel))
theorem dX12_ahead_43 : decode cX12_ahead 43 = .ok (.putfield 23, 3) := dq_181 (a := 0) (b := 23) (fd_r fcX12_ahead (by decide +kernel)) rfl
theorem dX12_ahead_46 : decode cX12_ahead 46 = .ok (.aload_n 0, 1) := dq_42 (fd_r fcX12_ahead (by decide +kernel))
theorem dX12_ahead_47 : decode cX12_ahead 47 = .ok (.iload_n 1, 1) := dq_27 (fd_r fcX12_ahead (by decide +kernel))
theorem dX12_ahead_48 : decode cX12_ahead 48 = .ok (.putfield 26, 3) := dq_181 (a := 0) (b := 26) (fd_r fcX12_ahead (by decide +kernel)) rfl
theorem dX12_ahead_51 : decode cX12_ahead 51 = .ok (.aload_n 0, 1) := dq_42 (fd_r fcX12_ahead (by decide +kernel))
theorem dX12_ahead_52 : decode cX12_ahead 52 = .ok (.iconst 0, 1) := dq_3 (fd_r fcX12_ahead (by decide +kernel))
theorem dX12_ahead_53 : decode cX12_ahead 53 = .ok (.putfield 20, 3) := dq_181 (a := 0) (b := 20) (fd_r fcX12_ahead (by decide +kernel)) rfl
theorem dX12_ahead_56 : decode cX12_ahead 56 = .ok (.aload_n 0, 1) := dq_42 (fd_r fcX12_ahead (by decide +kernel))
theorem dX12_ahead_57 : decode cX12_ahead 57 = .ok (.iconst (-1), 1) := dq_2 (fd_r fcX12_ahead (by decide +kernel))
theorem dX12_ahead_58 : decode cX12_ahead 58 = .ok (.putfield 48, 3) := dq_181 (a := 0) (b := 48) (fd_r fcX12_ahead (by decide +kernel)) rfl
theorem dX12_ahead_61 : decode cX12_ahead 61 = .ok (.iload_n 1, 1) := dq_27 (fd_r fcX12_ahead (by decide +kernel))
theorem dX12_ahead_62 : decode cX12_ahead 62 = .ok (.aload_n 0, 1) := dq_42 (fd_r fcX12_ahead (by decide +kernel))
theorem dX12_ahead_63 : decode cX12_ahead 63 = .ok (.getfield 17, 3) := dq_180 (a := 0) (b := 17) (fd_r fcX12_ahead (by decide +kernel)) rfl
theorem dX12_ahead_66 : decode cX12_ahead 66 = .ok (.if_icmp .lt 4, 3) := dq_161 (a := 0) (b := 4) (fd_r fcX12_ahead (by decide +kernel)) rfl
theorem dX12_ahead_69 : decode cX12_ahead 69 = .ok (.return_, 1) := dq_177 (fd_r fcX12_ahead (by decide +kernel))
theorem dX12_ahead_70 : decode cX12_ahead 70 = .ok (.aload_n 0, 1) := dq_42 (fd_r fcX12_ahead (by decide +kernel))
theorem dX12_ahead_71 : decode cX12_ahead 71 = .ok (.getfield 7, 3) := dq_180 (a := 0) (b := 7) (fd_r fcX12_ahead (by decide +kernel)) rfl
theorem dX12_ahead_74 : decode cX12_ahead 74 = .ok (.iload_n 1, 1) := dq_27 (fd_r fcX12_ahead (by decide +kernel))
theorem dX12_ahead_75 : decode cX12_ahead 75 = .ok (.iaload, 1) := dq_46 (fd_r fcX12_ahead (by decide +kernel))
theorem dX12_ahead_76 : decode cX12_ahead 76 = .ok (.invokestatic 324, 3) := dq_184 (a := 1) (b := 68) (fd_r fcX12_ahead (by decide +kernel)) rfl
theorem dX12_ahead_79 : decode cX12_ahead 79 = .ok (.istore_n 2, 1) := dq_61 (fd_r fcX12_ahead (by decide +kernel))
theorem dX12_ahead_80 : decode cX12_ahead 80 = .ok (.aload_n 0, 1) := dq_42 (fd_r fcX12_ahead (by decide +kernel))
theorem dX12_ahead_81 : decode cX12_ahead 81 = .ok (.getfield 7, 3) := dq_180 (a := 0) (b := 7) (fd_r fcX12_ahead (by decide +kernel)) rfl
theorem dX12_ahead_84 : decode cX12_ahead 84 = .ok (.iload_n 1, 1) := dq_27 (fd_r fcX12_ahead (by decide +kernel))
theorem dX12_ahead_85 : decode cX12_ahead 85 = .ok (.iaload, 1) := dq_46 (fd_r fcX12_ahead (by decide +kernel))
theorem dX12_ahead_86 : decode cX12_ahead 86 = .ok (.invokestatic 328, 3) := dq_184 (a := 1) (b := 72) (fd_r fcX12_ahead (by decide +kernel)) rfl
theorem dX12_ahead_89 : decode cX12_ahead 89 = .ok (.istore_n 3, 1) := dq_62 (fd_r fcX12_ahead (by decide +kernel))
theorem dX12_ahead_90 : decode cX12_ahead 90 = .ok (.iload_n 2, 1) := dq_28 (fd_r fcX12_ahead (by decide +kernel))
theorem dX12_ahead_91 : decode cX12_ahead 91 = .ok (.ifCond .ne 7, 3) := dq_154 (a := 0) (b := 7) (fd_r fcX12_ahead (by decide +kernel)) rfl
theorem dX12_ahead_94 : decode cX12_ahead 94 = .ok (.iload_n 3, 1) := dq_29 (fd_r fcX12_ahead (by decide +kernel))
theorem dX12_ahead_95 : decode cX12_ahead 95 = .ok (.ifCond .eq 40, 3) := dq_153 (a := 0) (b := 40) (fd_r fcX12_ahead (by decide +kernel)) rfl
theorem dX12_ahead_98 : decode cX12_ahead 98 = .ok (.iload_n 1, 1) := dq_27 (fd_r fcX12_ahead (by decide +kernel))
theorem dX12_ahead_99 : decode cX12_ahead 99 = .ok (.ifCond .le 36, 3) := dq_158 (a := 0) (b := 36) (fd_r fcX12_ahead (by decide +kernel)) rfl
theorem dX12_ahead_102 : decode cX12_ahead 102 = .ok (.aload_n 0, 1) := dq_42 (fd_r fcX12_ahead (by decide +kernel))
theorem dX12_ahead_103 : decode cX12_ahead 103 = .ok (.getfield 7, 3) := dq_180 (a := 0) (b := 7) (fd_r fcX12_ahead (by decide +kernel)) rfl
theorem dX12_ahead_106 : decode cX12_ahead 106 = .ok (.iload_n 1, 1) := dq_27 (fd_r fcX12_ahead (by decide +kernel))
theorem dX12_ahead_107 : decode cX12_ahead 107 = .ok (.iconst 1, 1) := dq_4 (fd_r fcX12_ahead (by decide +kernel))
theorem dX12_ahead_108 : decode cX12_ahead 108 = .ok (.isub, 1) := dq_100 (fd_r fcX12_ahead (by decide +kernel))
theorem dX12_ahead_109 : decode cX12_ahead 109 = .ok (.iaload, 1) := dq_46 (fd_r fcX12_ahead (by decide +kernel))
theorem dX12_ahead_110 : decode cX12_ahead 110 = .ok (.invokestatic 324, 3) := dq_184 (a := 1) (b := 68) (fd_r fcX12_ahead (by decide +kernel)) rfl
theorem dX12_ahead_113 : decode cX12_ahead 113 = .ok (.ifCond .ne 17, 3) := dq_154 (a := 0) (b := 17) (fd_r fcX12_ahead (by decide +kernel)) rfl
theorem dX12_ahead_116 : decode cX12_ahead 116 = .ok (.aload_n 0, 1) := dq_42 (fd_r fcX12_ahead (by decide +kernel))
theorem dX12_ahead_117 : decode cX12_ahead 117 = .ok (.getfield 7, 3) := dq_180 (a := 0) (b := 7) (fd_r fcX12_ahead (by decide +kernel)) rfl
theorem dX12_ahead_120 : decode cX12_ahead 120 = .ok (.iload_n 1, 1) := dq_27 (fd_r fcX12_ahead (by decide +kernel))
theorem dX12_ahead_121 : decode cX12_ahead 121 = .ok (.iconst 1, 1) := dq_4 (fd_r fcX12_ahead (by decide +kernel))
theorem dX12_ahead_122 : decode cX12_ahead 122 = .ok (.isub, 1) := dq_100 (fd_r fcX12_ahead (by decide +kernel))
theorem dX12_ahead_123 : decode cX12_ahead 123 = .ok (.iaload, 1) := dq_46 (fd_r fcX12_ahead (by decide +kernel))
theorem dX12_ahead_124 : decode cX12_ahead 124 = .ok (.invokestatic 328, 3) := dq_184 (a := 1) (b := 72) (fd_r fcX12_ahead (by decide +kernel)) rfl
theorem dX12_ahead_127 : decode cX12_ahead 127 = .ok (.ifCond .eq 8, 3) := dq_153 (a := 0) (b := 8) (fd_r fcX12_ahead (by decide +kernel)) rfl
theorem dX12_ahead_130 : decode cX12_ahead 130 = .ok (.aload_n 0, 1) := dq_42 (fd_r fcX12_ahead (by decide +kernel))
theorem dX12_ahead_131 : decode cX12_ahead 131 = .ok (.iload_n 1, 1) := dq_27 (fd_r fcX12_ahead (by decide +kernel))
theorem dX12_ahead_132 : decode cX12_ahead 132 = .ok (.putfield 48, 3) := dq_181 (a := 0) (b := 48) (fd_r fcX12_ahead (by decide +kernel)) rfl
theorem dX12_ahead_135 : decode cX12_ahead 135 = .ok (.aload_n 0, 1) := dq_42 (fd_r fcX12_ahead (by decide +kernel))
theorem dX12_ahead_136 : decode cX12_ahead 136 = .ok (.iconst 0, 1) := dq_3 (fd_r fcX12_ahead (by decide +kernel))
theorem dX12_ahead_137 : decode cX12_ahead 137 = .ok (.putfield 29, 3) := dq_181 (a := 0) (b := 29) (fd_r fcX12_ahead (by decide +kernel)) rfl
theorem dX12_ahead_140 : decode cX12_ahead 140 = .ok (.aload_n 0, 1) := dq_42 (fd_r fcX12_ahead (by decide +kernel))
theorem dX12_ahead_141 : decode cX12_ahead 141 = .ok (.lconst 0, 1) := dq_9 (fd_r fcX12_ahead (by decide +kernel))
theorem dX12_ahead_142 : decode cX12_ahead 142 = .ok (.putfield 32, 3) := dq_181 (a := 0) (b := 32) (fd_r fcX12_ahead (by decide +kernel)) rfl
theorem dX12_ahead_145 : decode cX12_ahead 145 = .ok (.aload_n 0, 1) := dq_42 (fd_r fcX12_ahead (by decide +kernel))
theorem dX12_ahead_146 : decode cX12_ahead 146 = .ok (.iconst 3, 1) := dq_6 (fd_r fcX12_ahead (by decide +kernel))
theorem dX12_ahead_147 : decode cX12_ahead 147 = .ok (.putfield 20, 3) := dq_181 (a := 0) (b := 20) (fd_r fcX12_ahead (by decide +kernel)) rfl
theorem dX12_ahead_150 : decode cX12_ahead 150 = .ok (.aload_n 0, 1) := dq_42 (fd_r fcX12_ahead (by decide +kernel))
theorem dX12_ahead_151 : decode cX12_ahead 151 = .ok (.iload_n 1, 1) := dq_27 (fd_r fcX12_ahead (by decide +kernel))
theorem dX12_ahead_152 : decode cX12_ahead 152 = .ok (.iconst 1, 1) := dq_4 (fd_r fcX12_ahead (by decide +kernel))
theorem dX12_ahead_153 : decode cX12_ahead 153 = .ok (.iadd, 1) := dq_96 (fd_r fcX12_ahead (by decide +kernel))
theorem dX12_ahead_154 : decode cX12_ahead 154 = .ok (.putfield 26, 3) := dq_181 (a := 0) (b := 26) (fd_r fcX12_ahead (by decide +kernel)) rfl
theorem dX12_ahead_157 : decode cX12_ahead 157 = .ok (.iload_n 2, 1) := dq_28 (fd_r fcX12_ahead (by decide +kernel))
theorem dX12_ahead_158 : decode cX12_ahead 158 = .ok (.ifCond .ne 18, 3) := dq_154 (a := 0) (b := 18) (fd_r fcX12_ahead (by decide +kernel)) rfl
theorem dX12_ahead_161 : decode cX12_ahead 161 = .ok (.iload_n 3, 1) := dq_29 (fd_r fcX12_ahead (by decide +kernel))
theorem dX12_ahead_162 : decode cX12_ahead 162 = .ok (.ifCond .ne 14, 3) := dq_154 (a := 0) (b := 14) (fd_r fcX12_ahead (by decide +kernel)) rfl
theorem dX12_ahead_165 : decode cX12_ahead 165 = .ok (.aload_n 0, 1) := dq_42 (fd_r fcX12_ahead (by decide +kernel))
theorem dX12_ahead_166 : decode cX12_ahead 166 = .ok (.aload_n 0, 1) := dq_42 (fd_r fcX12_ahead (by decide +kernel))
theorem dX12_ahead_167 : decode cX12_ahead 167 = .ok (.getfield 7, 3) := dq_180 (a := 0) (b := 7) (fd_r fcX12_ahead (by decide +kernel)) rfl
theorem dX12_ahead_170 : decode cX12_ahead 170 = .ok (.iload_n 1, 1) := dq_27 (fd_r fcX12_ahead (by decide +kernel))
theorem dX12_ahead_171 : decode cX12_ahead 171 = .ok (.iaload, 1) := dq_46 (fd_r fcX12_ahead (by decide +kernel))
theorem dX12_ahead_172 : decode cX12_ahead 172 = .ok (.putfield 29, 3) := dq_181 (a := 0) (b := 29) (fd_r fcX12_ahead (by decide +kernel)) rfl
theorem dX12_ahead_175 : decode cX12_ahead 175 = .ok (.return_, 1) := dq_177 (fd_r fcX12_ahead (by decide +kernel))
theorem dX12_ahead_176 : decode cX12_ahead 176 = .ok (.aload_n 0, 1) := dq_42 (fd_r fcX12_ahead (by decide +kernel))
theorem dX12_ahead_177 : decode cX12_ahead 177 = .ok (.iload_n 2, 1) := dq_28 (fd_r fcX12_ahead (by decide +kernel))
theorem dX12_ahead_178 : decode cX12_ahead 178 = .ok (.ifCond .eq 7, 3) := dq_153 (a := 0) (b := 7) (fd_r fcX12_ahead (by decide +kernel)) rfl
theorem dX12_ahead_181 : decode cX12_ahead 181 = .ok (.iconst 1, 1) := dq_4 (fd_r fcX12_ahead (by decide +kernel))
theorem dX12_ahead_182 : decode cX12_ahead 182 = .ok (.goto 4, 3) := dq_167 (a := 0) (b := 4) (fd_r fcX12_ahead (by decide +kernel)) rfl
theorem dX12_ahead_185 : decode cX12_ahead 185 = .ok (.iconst 2, 1) := dq_5 (fd_r fcX12_ahead (by decide +kernel))
theorem dX12_ahead_186 : decode cX12_ahead 186 = .ok (.putfield 20, 3) := dq_181 (a := 0) (b := 20) (fd_r fcX12_ahead (by decide +kernel)) rfl
theorem dX12_ahead_189 : decode cX12_ahead 189 = .ok (.iload_n 2, 1) := dq_28 (fd_r fcX12_ahead (by decide +kernel))
theorem dX12_ahead_190 : decode cX12_ahead 190 = .ok (.ifCond .eq 8, 3) := dq_153 (a := 0) (b := 8) (fd_r fcX12_ahead (by decide +kernel)) rfl
theorem dX12_ahead_193 : decode cX12_ahead 193 = .ok (.bipush 6, 2) := dq_16 (a := 6) (fd_r fcX12_ahead (by decide +kernel)) rfl
theorem dX12_ahead_195 : decode cX12_ahead 195 = .ok (.goto 4, 3) := dq_167 (a := 0) (b := 4) (fd_r fcX12_ahead (by decide +kernel)) rfl
theorem dX12_ahead_198 : decode cX12_ahead 198 = .ok (.iconst 4, 1) := dq_7 (fd_r fcX12_ahead (by decide +kernel))
theorem dX12_ahead_199 : decode cX12_ahead 199 = .ok (.istore 4, 2) := dq_54 (a := 4) (fd_r fcX12_ahead (by decide +kernel))
theorem dX12_ahead_201 : decode cX12_ahead 201 = .ok (.iconst 0, 1) := dq_3 (fd_r fcX12_ahead (by decide +kernel))
theorem dX12_ahead_202 : decode cX12_ahead 202 = .ok (.istore 5, 2) := dq_54 (a := 5) (fd_r fcX12_ahead (by decide +kernel))
theorem dX12_ahead_204 : decode cX12_ahead 204 = .ok (.iload_n 1, 1) := dq_27 (fd_r fcX12_ahead (by decide +kernel))
theorem dX12_ahead_205 : decode cX12_ahead 205 = .ok (.aload_n 0, 1) := dq_42 (fd_r fcX12_ahead (by decide +kernel))
theorem dX12_ahead_206 : decode cX12_ahead 206 = .ok (.getfield 17, 3) := dq_180 (a := 0) (b := 17) (fd_r fcX12_ahead (by decide +kernel)) rfl
theorem dX12_ahead_209 : decode cX12_ahead 209 = .ok (.if_icmp .ge 125, 3) := dq_162 (a := 0) (b := 125) (fd_r fcX12_ahead (by decide +kernel)) rfl
theorem dX12_ahead_212 : decode cX12_ahead 212 = .ok (.iload_n 2, 1) := dq_28 (fd_r fcX12_ahead (by decide +kernel))
theorem dX12_ahead_213 : decode cX12_ahead 213 = .ok (.ifCond .eq 18, 3) := dq_153 (a := 0) (b := 18) (fd_r fcX12_ahead (by decide +kernel)) rfl
theorem dX12_ahead_216 : decode cX12_ahead 216 = .ok (.aload_n 0, 1) := dq_42 (fd_r fcX12_ahead (by decide +kernel))
theorem dX12_ahead_217 : decode cX12_ahead 217 = .ok (.getfield 7, 3) := dq_180 (a := 0) (b := 7) (fd_r fcX12_ahead (by decide +kernel)) rfl
theorem dX12_ahead_220 : decode cX12_ahead 220 = .ok (.iload_n 1, 1) := dq_27 (fd_r fcX12_ahead (by decide +kernel))
theorem dX12_ahead_221 : decode cX12_ahead 221 = .ok (.iaload, 1) := dq_46 (fd_r fcX12_ahead (by decide +kernel))
theorem dX12_ahead_222 : decode cX12_ahead 222 = .ok (.invokestatic 324, 3) := dq_184 (a := 1) (b := 68) (fd_r fcX12_ahead (by decide +kernel)) rfl
theorem dX12_ahead_225 : decode cX12_ahead 225 = .ok (.ifCond .eq 109, 3) := dq_153 (a := 0) (b := 109) (fd_r fcX12_ahead (by decide +kernel)) rfl
theorem dX12_ahead_228 : decode cX12_ahead 228 = .ok (.goto 15, 3) := dq_167 (a := 0) (b := 15) (fd_r fcX12_ahead (by decide +kernel)) rfl
theorem dX12_ahead_231 : decode cX12_ahead 231 = .ok (.aload_n 0, 1) := dq_42 (fd_r fcX12_ahead (by decide +kernel))
theorem dX12_ahead_232 : decode cX12_ahead 232 = .ok (.getfield 7, 3) := dq_180 (a := 0) (b := 7) (fd_r fcX12_ahead (by decide +kernel)) rfl
theorem dX12_ahead_235 : decode cX12_ahead 235 = .ok (.iload_n 1, 1) := dq_27 (fd_r fcX12_ahead (by decide +kernel))
theorem dX12_ahead_236 : decode cX12_ahead 236 = .ok (.iaload, 1) := dq_46 (fd_r fcX12_ahead (by decide +kernel))
theorem dX12_ahead_237 : decode cX12_ahead 237 = .ok (.invokestatic 328, 3) := dq_184 (a := 1) (b := 72) (fd_r fcX12_ahead (by decide +kernel)) rfl
theorem dX12_ahead_240 : decode cX12_ahead 240 = .ok (.ifCond .eq 94, 3) := dq_153 (a := 0) (b := 94) (fd_r fcX12_ahead (by decide +kernel)) rfl
theorem dX12_ahead_243 : decode cX12_ahead 243 = .ok (.iload 5, 2) := dq_21 (a := 5) (fd_r fcX12_ahead (by decide +kernel))
theorem dX12_ahead_245 : decode cX12_ahead 245 = .ok (.iload 4, 2) := dq_21 (a := 4) (fd_r fcX12_ahead (by decide +kernel))
theorem dX12_ahead_247 : decode cX12_ahead 247 = .ok (.if_icmp .ne 16, 3) := dq_160 (a := 0) (b := 16) (fd_r fcX12_ahead (by decide +kernel)) rfl
theorem dX12_ahead_250 : decode cX12_ahead 250 = .ok (.aload_n 0, 1) := dq_42 (fd_r fcX12_ahead (by decide +kernel))
theorem dX12_ahead_251 : decode cX12_ahead 251 = .ok (.getfield 48, 3) := dq_180 (a := 0) (b := 48) (fd_r fcX12_ahead (by decide +kernel)) rfl
theorem dX12_ahead_254 : decode cX12_ahead 254 = .ok (.iconst (-1), 1) := dq_2 (fd_r fcX12_ahead (by decide +kernel))
theorem dX12_ahead_255 : decode cX12_ahead 255 = .ok (.if_icmp .ne 8, 3) := dq_160 (a := 0) (b := 8) (fd_r fcX12_ahead (by decide +kernel)) rfl
theorem dX12_ahead_258 : decode cX12_ahead 258 = .ok (.aload_n 0, 1) := dq_42 (fd_r fcX12_ahead (by decide +kernel))
theorem dX12_ahead_259 : decode cX12_ahead 259 = .ok (.iload_n 1, 1) := dq_27 (fd_r fcX12_ahead (by decide +kernel))
theorem dX12_ahead_260 : decode cX12_ahead 260 = .ok (.putfield 48, 3) := dq_181 (a := 0) (b := 48) (fd_r fcX12_ahead (by decide +kernel)) rfl
theorem dX12_ahead_263 : decode cX12_ahead 263 = .ok (.iload 5, 2) := dq_21 (a := 5) (fd_r fcX12_ahead (by decide +kernel))
theorem dX12_ahead_265 : decode cX12_ahead 265 = .ok (.iload 4, 2) := dq_21 (a := 4) (fd_r fcX12_ahead (by decide +kernel))
theorem dX12_ahead_267 : decode cX12_ahead 267 = .ok (.if_icmp .ge 26, 3) := dq_162 (a := 0) (b := 26) (fd_r fcX12_ahead (by decide +kernel)) rfl
theorem dX12_ahead_270 : decode cX12_ahead 270 = .ok (.iload_n 2, 1) := dq_28 (fd_r fcX12_ahead (by decide +kernel))
theorem dX12_ahead_271 : decode cX12_ahead 271 = .ok (.ifCond .eq 22, 3) := dq_153 (a := 0) (b := 22) (fd_r fcX12_ahead (by decide +kernel)) rfl
theorem dX12_ahead_274 : decode cX12_ahead 274 = .ok (.aload_n 0, 1) := dq_42 (fd_r fcX12_ahead (by decide +kernel))
theorem dX12_ahead_275 : decode cX12_ahead 275 = .ok (.aload_n 0, 1) := dq_42 (fd_r fcX12_ahead (by decide +kernel))
theorem dX12_ahead_276 : decode cX12_ahead 276 = .ok (.getfield 32, 3) := dq_180 (a := 0) (b := 32) (fd_r fcX12_ahead (by decide +kernel)) rfl
theorem dX12_ahead_279 : decode cX12_ahead 279 = .ok (.bipush 8, 2) := dq_16 (a := 8) (fd_r fcX12_ahead (by decide +kernel)) rfl
theorem dX12_ahead_281 : decode cX12_ahead 281 = .ok (.lshl, 1) := dq_121 (fd_r fcX12_ahead (by decide +kernel))
theorem dX12_ahead_282 : decode cX12_ahead 282 = .ok (.aload_n 0, 1) := dq_42 (fd_r fcX12_ahead (by decide +kernel))
theorem dX12_ahead_283 : decode cX12_ahead 283 = .ok (.getfield 7, 3) := dq_180 (a := 0) (b := 7) (fd_r fcX12_ahead (by decide +kernel)) rfl
theorem dX12_ahead_286 : decode cX12_ahead 286 = .ok (.iload_n 1, 1) := dq_27 (fd_r fcX12_ahead (by decide +kernel))
theorem dX12_ahead_287 : decode cX12_ahead 287 = .ok (.iaload, 1) := dq_46 (fd_r fcX12_ahead (by decide +kernel))
theorem dX12_ahead_288 : decode cX12_ahead 288 = .ok (.i2l, 1) := dq_133 (fd_r fcX12_ahead (by decide +kernel))
theorem dX12_ahead_289 : decode cX12_ahead 289 = .ok (.lor, 1) := dq_129 (fd_r fcX12_ahead (by decide +kernel))
theorem dX12_ahead_290 : decode cX12_ahead 290 = .ok (.putfield 32, 3) := dq_181 (a := 0) (b := 32) (fd_r fcX12_ahead (by decide +kernel)) rfl
theorem dX12_ahead_293 : decode cX12_ahead 293 = .ok (.iload 5, 2) := dq_21 (a := 5) (fd_r fcX12_ahead (by decide +kernel))
theorem dX12_ahead_295 : decode cX12_ahead 295 = .ok (.iload 4, 2) := dq_21 (a := 4) (fd_r fcX12_ahead (by decide +kernel))
theorem dX12_ahead_297 : decode cX12_ahead 297 = .ok (.if_icmp .ge 28, 3) := dq_162 (a := 0) (b := 28) (fd_r fcX12_ahead (by decide +kernel)) rfl
theorem dX12_ahead_300 : decode cX12_ahead 300 = .ok (.iload_n 3, 1) := dq_29 (fd_r fcX12_ahead (by decide +kernel))
theorem dX12_ahead_301 : decode cX12_ahead 301 = .ok (.ifCond .eq 24, 3) := dq_153 (a := 0) (b := 24) (fd_r fcX12_ahead (by decide +kernel)) rfl
theorem dX12_ahead_304 : decode cX12_ahead 304 = .ok (.aload_n 0, 1) := dq_42 (fd_r fcX12_ahead (by decide +kernel))
theorem dX12_ahead_305 : decode cX12_ahead 305 = .ok (.bipush 10, 2) := dq_16 (a := 10) (fd_r fcX12_ahead (by decide +kernel)) rfl
theorem dX12_ahead_307 : decode cX12_ahead 307 = .ok (.aload_n 0, 1) := dq_42 (fd_r fcX12_ahead (by decide +kernel))
theorem dX12_ahead_308 : decode cX12_ahead 308 = .ok (.getfield 29, 3) := dq_180 (a := 0) (b := 29) (fd_r fcX12_ahead (by decide +kernel)) rfl
theorem dX12_ahead_311 : decode cX12_ahead 311 = .ok (.imul, 1) := dq_104 (fd_r fcX12_ahead (by decide +kernel))
theorem dX12_ahead_312 : decode cX12_ahead 312 = .ok (.aload_n 0, 1) := dq_42 (fd_r fcX12_ahead (by decide +kernel))
theorem dX12_ahead_313 : decode cX12_ahead 313 = .ok (.getfield 7, 3) := dq_180 (a := 0) (b := 7) (fd_r fcX12_ahead (by decide +kernel)) rfl
theorem dX12_ahead_316 : decode cX12_ahead 316 = .ok (.iload_n 1, 1) := dq_27 (fd_r fcX12_ahead (by decide +kernel))
theorem dX12_ahead_317 : decode cX12_ahead 317 = .ok (.iaload, 1) := dq_46 (fd_r fcX12_ahead (by decide +kernel))
theorem dX12_ahead_318 : decode cX12_ahead 318 = .ok (.iadd, 1) := dq_96 (fd_r fcX12_ahead (by decide +kernel))
theorem dX12_ahead_319 : decode cX12_ahead 319 = .ok (.bipush 48, 2) := dq_16 (a := 48) (fd_r fcX12_ahead (by decide +kernel)) rfl
theorem dX12_ahead_321 : decode cX12_ahead 321 = .ok (.isub, 1) := dq_100 (fd_r fcX12_ahead (by decide +kernel))
theorem dX12_ahead_322 : decode cX12_ahead 322 = .ok (.putfield 29, 3) := dq_181 (a := 0) (b := 29) (fd_r fcX12_ahead (by decide +kernel)) rfl
theorem dX12_ahead_325 : decode cX12_ahead 325 = .ok (.iinc 5 1, 3) := dq_132 (a := 5) (b := 1) (fd_r fcX12_ahead (by decide +kernel)) rfl
theorem dX12_ahead_328 : decode cX12_ahead 328 = .ok (.iinc 1 1, 3) := dq_132 (a := 1) (b := 1) (fd_r fcX12_ahead (by decide +kernel)) rfl
theorem dX12_ahead_331 : decode cX12_ahead 331 = .ok (.goto (-127), 3) := dq_167 (a := 255) (b := 129) (fd_r fcX12_ahead (by decide +kernel)) rfl
theorem dX12_ahead_334 : decode cX12_ahead 334 = .ok (.aload_n 0, 1) := dq_42 (fd_r fcX12_ahead (by decide +kernel))
theorem dX12_ahead_335 : decode cX12_ahead 335 = .ok (.iload_n 1, 1) := dq_27 (fd_r fcX12_ahead (by decide +kernel))
theorem dX12_ahead_336 : decode cX12_ahead 336 = .ok (.putfield 26, 3) := dq_181 (a := 0) (b := 26) (fd_r fcX12_ahead (by decide +kernel)) rfl
theorem dX12_ahead_339 : decode cX12_ahead 339 = .ok (.return_, 1) := dq_177 (fd_r fcX12_ahead (by decide +kernel))
theorem dX12_isSign_0 : decode cX12_isSign 0 = .ok (.aload_n 0, 1) := dq_42 (fd_r fcX12_isSign (by decide +kernel))
theorem dX12_isSign_1 : decode cX12_isSign 1 = .ok (.getfield 20, 3) := dq_180 (a := 0) (b := 20) (fd_r fcX12_isSign (by decide +kernel)) rfl
theorem dX12_isSign_4 : decode cX12_isSign 4 = .ok (.iconst 3, 1) := dq_6 (fd_r fcX12_isSign (by decide +kernel))
theorem dX12_isSign_5 : decode cX12_isSign 5 = .ok (.if_icmp .ne 15, 3) := dq_160 (a := 0) (b := 15) (fd_r fcX12_isSign (by decide +kernel)) rfl
theorem dX12_isSign_8 : decode cX12_isSign 8 = .ok (.aload_n 0, 1) := dq_42 (fd_r fcX12_isSign (by decide +kernel))
theorem dX12_isSign_9 : decode cX12_isSign 9 = .ok (.getfield 29, 3) := dq_180 (a := 0) (b := 29) (fd_r fcX12_isSign (by decide +kernel)) rfl
theorem dX12_isSign_12 : decode cX12_isSign 12 = .ok (.iload_n 1, 1) := dq_27 (fd_r fcX12_isSign (by decide +kernel))
theorem dX12_isSign_13 : decode cX12_isSign 13 = .ok (.if_icmp .ne 7, 3) := dq_160 (a := 0) (b := 7) (fd_r fcX12_isSign (by decide +kernel)) rfl
theorem dX12_isSign_16 : decode cX12_isSign 16 = .ok (.iconst 1, 1) := dq_4 (fd_r fcX12_isSign (by decide +kernel))
theorem dX12_isSign_17 : decode cX12_isSign 17 = .ok (.goto 4, 3) := dq_167 (a := 0) (b := 4) (fd_r fcX12_isSign (by decide +kernel)) rfl
theorem dX12_isSign_20 : decode cX12_isSign 20 = .ok (.iconst 0, 1) := dq_3 (fd_r fcX12_isSign (by decide +kernel))
theorem dX12_isSign_21 : decode cX12_isSign 21 = .ok (.ireturn, 1) := dq_172 (fd_r fcX12_isSign (by decide +kernel))
theorem dX12_isWord_0 : decode cX12_isWord 0 = .ok (.aload_n 0, 1) := dq_42 (fd_r fcX12_isWord (by decide +kernel))
theorem dX12_isWord_1 : decode cX12_isWord 1 = .ok (.getfield 20, 3) := dq_180 (a := 0) (b := 20) (fd_r fcX12_isWord (by decide +kernel)) rfl
theorem dX12_isWord_4 : decode cX12_isWord 4 = .ok (.iconst 1, 1) := dq_4 (fd_r fcX12_isWord (by decide +kernel))
theorem dX12_isWord_5 : decode cX12_isWord 5 = .ok (.if_icmp .ne 16, 3) := dq_160 (a := 0) (b := 16) (fd_r fcX12_isWord (by decide +kernel)) rfl
theorem dX12_isWord_8 : decode cX12_isWord 8 = .ok (.aload_n 0, 1) := dq_42 (fd_r fcX12_isWord (by decide +kernel))
theorem dX12_isWord_9 : decode cX12_isWord 9 = .ok (.getfield 32, 3) := dq_180 (a := 0) (b := 32) (fd_r fcX12_isWord (by decide +kernel)) rfl
theorem dX12_isWord_12 : decode cX12_isWord 12 = .ok (.lload_n 1, 1) := dq_31 (fd_r fcX12_isWord (by decide +kernel))
theorem dX12_isWord_13 : decode cX12_isWord 13 = .ok (.lcmp, 1) := dq_148 (fd_r fcX12_isWord (by decide +kernel))
theorem dX12_isWord_14 : decode cX12_isWord 14 = .ok (.ifCond .ne 7, 3) := dq_154 (a := 0) (b := 7) (fd_r fcX12_isWord (by decide +kernel)) rfl
theorem dX12_isWord_17 : decode cX12_isWord 17 = .ok (.iconst 1, 1) := dq_4 (fd_r fcX12_isWord (by decide +kernel))
theorem dX12_isWord_18 : decode cX12_isWord 18 = .ok (.goto 4, 3) := dq_167 (a := 0) (b := 4) (fd_r fcX12_isWord (by decide +kernel)) rfl
theorem dX12_isWord_21 : decode cX12_isWord 21 = .ok (.iconst 0, 1) := dq_3 (fd_r fcX12_isWord (by decide +kernel))
theorem dX12_isWord_22 : decode cX12_isWord 22 = .ok (.ireturn, 1) := dq_172 (fd_r fcX12_isWord (by decide +kernel))
theorem dX12_must_0 : decode cX12_must 0 = .ok (.aload_n 0, 1) := dq_42 (fd_r fcX12_must (by decide +kernel))
theorem dX12_must_1 : decode cX12_must 1 = .ok (.invokevirtual 331, 3) := dq_182 (a := 1) (b := 75) (fd_r fcX12_must (by decide +kernel)) rfl
theorem dX12_must_4 : decode cX12_must 4 = .ok (.aload_n 0, 1) := dq_42 (fd_r fcX12_must (by decide +kernel))
theorem dX12_must_5 : decode cX12_must 5 = .ok (.iload_n 1, 1) := dq_27 (fd_r fcX12_must (by decide +kernel))
theorem dX12_must_6 : decode cX12_must 6 = .ok (.invokevirtual 334, 3) := dq_182 (a := 1) (b := 78) (fd_r fcX12_must (by decide +kernel)) rfl
theorem dX12_must_9 : decode cX12_must 9 = .ok (.ifCond .ne 12, 3) := dq_154 (a := 0) (b := 12) (fd_r fcX12_must (by decide +kernel)) rfl
theorem dX12_must_12 : decode cX12_must 12 = .ok (.aload_n 0, 1) := dq_42 (fd_r fcX12_must (by decide +kernel))
theorem dX12_must_13 : decode cX12_must 13 = .ok (.iconst 1, 1) := dq_4 (fd_r fcX12_must (by decide +kernel))
theorem dX12_must_14 : decode cX12_must 14 = .ok (.aload_n 0, 1) := dq_42 (fd_r fcX12_must (by decide +kernel))
theorem dX12_must_15 : decode cX12_must 15 = .ok (.getfield 23, 3) := dq_180 (a := 0) (b := 23) (fd_r fcX12_must (by decide +kernel)) rfl
theorem dX12_must_18 : decode cX12_must 18 = .ok (.invokevirtual 320, 3) := dq_182 (a := 1) (b := 64) (fd_r fcX12_must (by decide +kernel)) rfl
theorem dX12_must_21 : decode cX12_must 21 = .ok (.aload_n 0, 1) := dq_42 (fd_r fcX12_must (by decide +kernel))
theorem dX12_must_22 : decode cX12_must 22 = .ok (.getfield 36, 3) := dq_180 (a := 0) (b := 36) (fd_r fcX12_must (by decide +kernel)) rfl
theorem dX12_must_25 : decode cX12_must 25 = .ok (.ifCond .ne 7, 3) := dq_154 (a := 0) (b := 7) (fd_r fcX12_must (by decide +kernel)) rfl
theorem dX12_must_28 : decode cX12_must 28 = .ok (.aload_n 0, 1) := dq_42 (fd_r fcX12_must (by decide +kernel))
theorem dX12_must_29 : decode cX12_must 29 = .ok (.invokevirtual 337, 3) := dq_182 (a := 1) (b := 81) (fd_r fcX12_must (by decide +kernel)) rfl
theorem dX12_must_32 : decode cX12_must 32 = .ok (.return_, 1) := dq_177 (fd_r fcX12_must (by decide +kernel))
theorem dX12_isOwn_0 : decode cX12_isOwn 0 = .ok (.lload_n 1, 1) := dq_31 (fd_r fcX12_isOwn (by decide +kernel))
theorem dX12_isOwn_1 : decode cX12_isOwn 1 = .ok (.ldc2_w 340, 3) := dq_20 (a := 1) (b := 84) (fd_r fcX12_isOwn (by decide +kernel)) rfl
theorem dX12_isOwn_4 : decode cX12_isOwn 4 = .ok (.lcmp, 1) := dq_148 (fd_r fcX12_isOwn (by decide +kernel))
theorem dX12_isOwn_5 : decode cX12_isOwn 5 = .ok (.ifCond .eq 35, 3) := dq_153 (a := 0) (b := 35) (fd_r fcX12_isOwn (by decide +kernel)) rfl
theorem dX12_isOwn_8 : decode cX12_isOwn 8 = .ok (.lload_n 1, 1) := dq_31 (fd_r fcX12_isOwn (by decide +kernel))
theorem dX12_isOwn_9 : decode cX12_isOwn 9 = .ok (.ldc2_w 342, 3) := dq_20 (a := 1) (b := 86) (fd_r fcX12_isOwn (by decide +kernel)) rfl
theorem dX12_isOwn_12 : decode cX12_isOwn 12 = .ok (.lcmp, 1) := dq_148 (fd_r fcX12_isOwn (by decide +kernel))
theorem dX12_isOwn_13 : decode cX12_isOwn 13 = .ok (.ifCond .eq 27, 3) := dq_153 (a := 0) (b := 27) (fd_r fcX12_isOwn (by decide +kernel)) rfl
theorem dX12_isOwn_16 : decode cX12_isOwn 16 = .ok (.lload_n 1, 1) := dq_31 (fd_r fcX12_isOwn (by decide +kernel))
theorem dX12_isOwn_17 : decode cX12_isOwn 17 = .ok (.ldc2_w 344, 3) := dq_20 (a := 1) (b := 88) (fd_r fcX12_isOwn (by decide +kernel)) rfl
theorem dX12_isOwn_20 : decode cX12_isOwn 20 = .ok (.lcmp, 1) := dq_148 (fd_r fcX12_isOwn (by decide +kernel))
theorem dX12_isOwn_21 : decode cX12_isOwn 21 = .ok (.ifCond .eq 19, 3) := dq_153 (a := 0) (b := 19) (fd_r fcX12_isOwn (by decide +kernel)) rfl
theorem dX12_isOwn_24 : decode cX12_isOwn 24 = .ok (.lload_n 1, 1) := dq_31 (fd_r fcX12_isOwn (by decide +kernel))
theorem dX12_isOwn_25 : decode cX12_isOwn 25 = .ok (.ldc2_w 346, 3) := dq_20 (a := 1) (b := 90) (fd_r fcX12_isOwn (by decide +kernel)) rfl
theorem dX12_isOwn_28 : decode cX12_isOwn 28 = .ok (.lcmp, 1) := dq_148 (fd_r fcX12_isOwn (by decide +kernel))
theorem dX12_isOwn_29 : decode cX12_isOwn 29 = .ok (.ifCond .eq 11, 3) := dq_153 (a := 0) (b := 11) (fd_r fcX12_isOwn (by decide +kernel)) rfl
theorem dX12_isOwn_32 : decode cX12_isOwn 32 = .ok (.lload_n 1, 1) := dq_31 (fd_r fcX12_isOwn (by decide +kernel))
theorem dX12_isOwn_33 : decode cX12_isOwn 33 = .ok (.ldc2_w 348, 3) := dq_20 (a := 1) (b := 92) (fd_r fcX12_isOwn (by decide +kernel)) rfl
theorem dX12_isOwn_36 : decode cX12_isOwn 36 = .ok (.lcmp, 1) := dq_148 (fd_r fcX12_isOwn (by decide +kernel))
theorem dX12_isOwn_37 : decode cX12_isOwn 37 = .ok (.ifCond .ne 5, 3) := dq_154 (a := 0) (b := 5) (fd_r fcX12_isOwn (by decide +kernel)) rfl
theorem dX12_isOwn_40 : decode cX12_isOwn 40 = .ok (.iconst 1, 1) := dq_4 (fd_r fcX12_isOwn (by decide +kernel))
theorem dX12_isOwn_41 : decode cX12_isOwn 41 = .ok (.ireturn, 1) := dq_172 (fd_r fcX12_isOwn (by decide +kernel))
theorem dX12_isOwn_42 : decode cX12_isOwn 42 = .ok (.lload_n 1, 1) := dq_31 (fd_r fcX12_isOwn (by decide +kernel))
theorem dX12_isOwn_43 : decode cX12_isOwn 43 = .ok (.ldc2_w 350, 3) := dq_20 (a := 1) (b := 94) (fd_r fcX12_isOwn (by decide +kernel)) rfl
theorem dX12_isOwn_46 : decode cX12_isOwn 46 = .ok (.lcmp, 1) := dq_148 (fd_r fcX12_isOwn (by decide +kernel))
theorem dX12_isOwn_47 : decode cX12_isOwn 47 = .ok (.ifCond .eq 35, 3) := dq_153 (a := 0) (b := 35) (fd_r fcX12_isOwn (by decide +kernel)) rfl
theorem dX12_isOwn_50 : decode cX12_isOwn 50 = .ok (.lload_n 1, 1) := dq_31 (fd_r fcX12_isOwn (by decide +kernel))
theorem dX12_isOwn_51 : decode cX12_isOwn 51 = .ok (.ldc2_w 352, 3) := dq_20 (a := 1) (b := 96) (fd_r fcX12_isOwn (by decide +kernel)) rfl
theorem dX12_isOwn_54 : decode cX12_isOwn 54 = .ok (.lcmp, 1) := dq_148 (fd_r fcX12_isOwn (by decide +kernel))
theorem dX12_isOwn_55 : decode cX12_isOwn 55 = .ok (.ifCond .eq 27, 3) := dq_153 (a := 0) (b := 27) (fd_r fcX12_isOwn (by decide +kernel)) rfl
theorem dX12_isOwn_58 : decode cX12_isOwn 58 = .ok (.lload_n 1, 1) := dq_31 (fd_r fcX12_isOwn (by decide +kernel))
theorem dX12_isOwn_59 : decode cX12_isOwn 59 = .ok (.ldc2_w 354, 3) := dq_20 (a := 1) (b := 98) (fd_r fcX12_isOwn (by decide +kernel)) rfl
theorem dX12_isOwn_62 : decode cX12_isOwn 62 = .ok (.lcmp, 1) := dq_148 (fd_r fcX12_isOwn (by decide +kernel))
theorem dX12_isOwn_63 : decode cX12_isOwn 63 = .ok (.ifCond .eq 19, 3) := dq_153 (a := 0) (b := 19) (fd_r fcX12_isOwn (by decide +kernel)) rfl
theorem dX12_isOwn_66 : decode cX12_isOwn 66 = .ok (.lload_n 1, 1) := dq_31 (fd_r fcX12_isOwn (by decide +kernel))
theorem dX12_isOwn_67 : decode cX12_isOwn 67 = .ok (.ldc2_w 356, 3) := dq_20 (a := 1) (b := 100) (fd_r fcX12_isOwn (by decide +kernel)) rfl
theorem dX12_isOwn_70 : decode cX12_isOwn 70 = .ok (.lcmp, 1) := dq_148 (fd_r fcX12_isOwn (by decide +kernel))
theorem dX12_isOwn_71 : decode cX12_isOwn 71 = .ok (.ifCond .eq 11, 3) := dq_153 (a := 0) (b := 11) (fd_r fcX12_isOwn (by decide +kernel)) rfl
theorem dX12_isOwn_74 : decode cX12_isOwn 74 = .ok (.lload_n 1, 1) := dq_31 (fd_r fcX12_isOwn (by decide +kernel))
theorem dX12_isOwn_75 : decode cX12_isOwn 75 = .ok (.ldc2_w 358, 3) := dq_20 (a := 1) (b := 102) (fd_r fcX12_isOwn (by decide +kernel)) rfl
theorem dX12_isOwn_78 : decode cX12_isOwn 78 = .ok (.lcmp, 1) := dq_148 (fd_r fcX12_isOwn (by decide +kernel))
theorem dX12_isOwn_79 : decode cX12_isOwn 79 = .ok (.ifCond .ne 5, 3) := dq_154 (a := 0) (b := 5) (fd_r fcX12_isOwn (by decide +kernel)) rfl
theorem dX12_isOwn_82 : decode cX12_isOwn 82 = .ok (.iconst 1, 1) := dq_4 (fd_r fcX12_isOwn (by decide +kernel))
theorem dX12_isOwn_83 : decode cX12_isOwn 83 = .ok (.ireturn, 1) := dq_172 (fd_r fcX12_isOwn (by decide +kernel))
theorem dX12_isOwn_84 : decode cX12_isOwn 84 = .ok (.lload_n 1, 1) := dq_31 (fd_r fcX12_isOwn (by decide +kernel))
theorem dX12_isOwn_85 : decode cX12_isOwn 85 = .ok (.ldc2_w 360, 3) := dq_20 (a := 1) (b := 104) (fd_r fcX12_isOwn (by decide +kernel)) rfl
theorem dX12_isOwn_88 : decode cX12_isOwn 88 = .ok (.lcmp, 1) := dq_148 (fd_r fcX12_isOwn (by decide +kernel))
theorem dX12_isOwn_89 : decode cX12_isOwn 89 = .ok (.ifCond .ne 5, 3) := dq_154 (a := 0) (b := 5) (fd_r fcX12_isOwn (by decide +kernel)) rfl
theorem dX12_isOwn_92 : decode cX12_isOwn 92 = .ok (.iconst 1, 1) := dq_4 (fd_r fcX12_isOwn (by decide +kernel))
theorem dX12_isOwn_93 : decode cX12_isOwn 93 = .ok (.ireturn, 1) := dq_172 (fd_r fcX12_isOwn (by decide +kernel))
theorem dX12_isOwn_94 : decode cX12_isOwn 94 = .ok (.iconst 0, 1) := dq_3 (fd_r fcX12_isOwn (by decide +kernel))
theorem dX12_isOwn_95 : decode cX12_isOwn 95 = .ok (.ireturn, 1) := dq_172 (fd_r fcX12_isOwn (by decide +kernel))
theorem dX12_number_0 : decode cX12_number 0 = .ok (.aload_n 0, 1) := dq_42 (fd_r fcX12_number (by decide +kernel))
theorem dX12_number_1 : decode cX12_number 1 = .ok (.invokevirtual 331, 3) := dq_182 (a := 1) (b := 75) (fd_r fcX12_number (by decide +kernel)) rfl
theorem dX12_number_4 : decode cX12_number 4 = .ok (.aload_n 0, 1) := dq_42 (fd_r fcX12_number (by decide +kernel))
theorem dX12_number_5 : decode cX12_number 5 = .ok (.getfield 36, 3) := dq_180 (a := 0) (b := 36) (fd_r fcX12_number (by decide +kernel)) rfl
theorem dX12_number_8 : decode cX12_number 8 = .ok (.ifCond .le 5, 3) := dq_158 (a := 0) (b := 5) (fd_r fcX12_number (by decide +kernel)) rfl
theorem dX12_number_11 : decode cX12_number 11 = .ok (.iconst 0, 1) := dq_3 (fd_r fcX12_number (by decide +kernel))
theorem dX12_number_12 : decode cX12_number 12 = .ok (.ireturn, 1) := dq_172 (fd_r fcX12_number (by decide +kernel))
theorem dX12_number_13 : decode cX12_number 13 = .ok (.aload_n 0, 1) := dq_42 (fd_r fcX12_number (by decide +kernel))
theorem dX12_number_14 : decode cX12_number 14 = .ok (.getfield 20, 3) := dq_180 (a := 0) (b := 20) (fd_r fcX12_number (by decide +kernel)) rfl
theorem dX12_number_17 : decode cX12_number 17 = .ok (.iconst 2, 1) := dq_5 (fd_r fcX12_number (by decide +kernel))
theorem dX12_number_18 : decode cX12_number 18 = .ok (.if_icmp .eq 12, 3) := dq_159 (a := 0) (b := 12) (fd_r fcX12_number (by decide +kernel)) rfl
theorem dX12_number_21 : decode cX12_number 21 = .ok (.aload_n 0, 1) := dq_42 (fd_r fcX12_number (by decide +kernel))
theorem dX12_number_22 : decode cX12_number 22 = .ok (.iconst 1, 1) := dq_4 (fd_r fcX12_number (by decide +kernel))
theorem dX12_number_23 : decode cX12_number 23 = .ok (.aload_n 0, 1) := dq_42 (fd_r fcX12_number (by decide +kernel))
theorem dX12_number_24 : decode cX12_number 24 = .ok (.getfield 23, 3) := dq_180 (a := 0) (b := 23) (fd_r fcX12_number (by decide +kernel)) rfl
theorem dX12_number_27 : decode cX12_number 27 = .ok (.invokevirtual 320, 3) := dq_182 (a := 1) (b := 64) (fd_r fcX12_number (by decide +kernel)) rfl
theorem dX12_number_30 : decode cX12_number 30 = .ok (.aload_n 0, 1) := dq_42 (fd_r fcX12_number (by decide +kernel))
theorem dX12_number_31 : decode cX12_number 31 = .ok (.getfield 36, 3) := dq_180 (a := 0) (b := 36) (fd_r fcX12_number (by decide +kernel)) rfl
theorem dX12_number_34 : decode cX12_number 34 = .ok (.ifCond .ne 24, 3) := dq_154 (a := 0) (b := 24) (fd_r fcX12_number (by decide +kernel)) rfl
theorem dX12_number_37 : decode cX12_number 37 = .ok (.aload_n 0, 1) := dq_42 (fd_r fcX12_number (by decide +kernel))
theorem dX12_number_38 : decode cX12_number 38 = .ok (.getfield 29, 3) := dq_180 (a := 0) (b := 29) (fd_r fcX12_number (by decide +kernel)) rfl
theorem dX12_number_41 : decode cX12_number 41 = .ok (.iload_n 1, 1) := dq_27 (fd_r fcX12_number (by decide +kernel))
theorem dX12_number_42 : decode cX12_number 42 = .ok (.iload_n 2, 1) := dq_28 (fd_r fcX12_number (by decide +kernel))
theorem dX12_number_43 : decode cX12_number 43 = .ok (.invokestatic 362, 3) := dq_184 (a := 1) (b := 106) (fd_r fcX12_number (by decide +kernel)) rfl
theorem dX12_number_46 : decode cX12_number 46 = .ok (.ifCond .ne 12, 3) := dq_154 (a := 0) (b := 12) (fd_r fcX12_number (by decide +kernel)) rfl
theorem dX12_number_49 : decode cX12_number 49 = .ok (.aload_n 0, 1) := dq_42 (fd_r fcX12_number (by decide +kernel))
theorem dX12_number_50 : decode cX12_number 50 = .ok (.iconst 4, 1) := dq_7 (fd_r fcX12_number (by decide +kernel))
theorem dX12_number_51 : decode cX12_number 51 = .ok (.aload_n 0, 1) := dq_42 (fd_r fcX12_number (by decide +kernel))
theorem dX12_number_52 : decode cX12_number 52 = .ok (.getfield 23, 3) := dq_180 (a := 0) (b := 23) (fd_r fcX12_number (by decide +kernel)) rfl
theorem dX12_number_55 : decode cX12_number 55 = .ok (.invokevirtual 320, 3) := dq_182 (a := 1) (b := 64) (fd_r fcX12_number (by decide +kernel)) rfl
theorem dX12_number_58 : decode cX12_number 58 = .ok (.aload_n 0, 1) := dq_42 (fd_r fcX12_number (by decide +kernel))
theorem dX12_number_59 : decode cX12_number 59 = .ok (.getfield 29, 3) := dq_180 (a := 0) (b := 29) (fd_r fcX12_number (by decide +kernel)) rfl
theorem dX12_number_62 : decode cX12_number 62 = .ok (.istore_n 3, 1) := dq_62 (fd_r fcX12_number (by decide +kernel))
theorem dX12_number_63 : decode cX12_number 63 = .ok (.aload_n 0, 1) := dq_42 (fd_r fcX12_number (by decide +kernel))
theorem dX12_number_64 : decode cX12_number 64 = .ok (.getfield 36, 3) := dq_180 (a := 0) (b := 36) (fd_r fcX12_number (by decide +kernel)) rfl
theorem dX12_number_67 : decode cX12_number 67 = .ok (.ifCond .ne 7, 3) := dq_154 (a := 0) (b := 7) (fd_r fcX12_number (by decide +kernel)) rfl
theorem dX12_number_70 : decode cX12_number 70 = .ok (.aload_n 0, 1) := dq_42 (fd_r fcX12_number (by decide +kernel))
theorem dX12_number_71 : decode cX12_number 71 = .ok (.invokevirtual 337, 3) := dq_182 (a := 1) (b := 81) (fd_r fcX12_number (by decide +kernel)) rfl
theorem dX12_number_74 : decode cX12_number 74 = .ok (.iload_n 3, 1) := dq_29 (fd_r fcX12_number (by decide +kernel))
theorem dX12_number_75 : decode cX12_number 75 = .ok (.ireturn, 1) := dq_172 (fd_r fcX12_number (by decide +kernel))
theorem dX12_isCounted_0 : decode cX12_isCounted 0 = .ok (.aload_n 0, 1) := dq_42 (fd_r fcX12_isCounted (by decide +kernel))
theorem dX12_isCounted_1 : decode cX12_isCounted 1 = .ok (.getfield 36, 3) := dq_180 (a := 0) (b := 36) (fd_r fcX12_isCounted (by decide +kernel)) rfl
theorem dX12_isCounted_4 : decode cX12_isCounted 4 = .ok (.ifCond .ne 17, 3) := dq_154 (a := 0) (b := 17) (fd_r fcX12_isCounted (by decide +kernel)) rfl
theorem dX12_isCounted_7 : decode cX12_isCounted 7 = .ok (.iload_n 1, 1) := dq_27 (fd_r fcX12_isCounted (by decide +kernel))
theorem dX12_isCounted_8 : decode cX12_isCounted 8 = .ok (.ifCond .eq 13, 3) := dq_153 (a := 0) (b := 13) (fd_r fcX12_isCounted (by decide +kernel)) rfl
theorem dX12_isCounted_11 : decode cX12_isCounted 11 = .ok (.aload_n 0, 1) := dq_42 (fd_r fcX12_isCounted (by decide +kernel))
theorem dX12_isCounted_12 : decode cX12_isCounted 12 = .ok (.bipush 6, 2) := dq_16 (a := 6) (fd_r fcX12_isCounted (by decide +kernel)) rfl
theorem dX12_isCounted_14 : decode cX12_isCounted 14 = .ok (.aload_n 0, 1) := dq_42 (fd_r fcX12_isCounted (by decide +kernel))
theorem dX12_isCounted_15 : decode cX12_isCounted 15 = .ok (.getfield 23, 3) := dq_180 (a := 0) (b := 23) (fd_r fcX12_isCounted (by decide +kernel)) rfl
theorem dX12_isCounted_18 : decode cX12_isCounted 18 = .ok (.invokevirtual 320, 3) := dq_182 (a := 1) (b := 64) (fd_r fcX12_isCounted (by decide +kernel)) rfl
theorem dX12_isCounted_21 : decode cX12_isCounted 21 = .ok (.aload_n 0, 1) := dq_42 (fd_r fcX12_isCounted (by decide +kernel))
theorem dX12_isCounted_22 : decode cX12_isCounted 22 = .ok (.getfield 36, 3) := dq_180 (a := 0) (b := 36) (fd_r fcX12_isCounted (by decide +kernel)) rfl
theorem dX12_isCounted_25 : decode cX12_isCounted 25 = .ok (.ifCond .ne 7, 3) := dq_154 (a := 0) (b := 7) (fd_r fcX12_isCounted (by decide +kernel)) rfl
theorem dX12_isCounted_28 : decode cX12_isCounted 28 = .ok (.aload_n 0, 1) := dq_42 (fd_r fcX12_isCounted (by decide +kernel))
theorem dX12_isCounted_29 : decode cX12_isCounted 29 = .ok (.invokevirtual 337, 3) := dq_182 (a := 1) (b := 81) (fd_r fcX12_isCounted (by decide +kernel)) rfl
theorem dX12_isCounted_32 : decode cX12_isCounted 32 = .ok (.aload_n 0, 1) := dq_42 (fd_r fcX12_isCounted (by decide +kernel))
theorem dX12_isCounted_33 : decode cX12_isCounted 33 = .ok (.getfield 36, 3) := dq_180 (a := 0) (b := 36) (fd_r fcX12_isCounted (by decide +kernel)) rfl
theorem dX12_isCounted_36 : decode cX12_isCounted 36 = .ok (.ifCond .ne 7, 3) := dq_154 (a := 0) (b := 7) (fd_r fcX12_isCounted (by decide +kernel)) rfl
theorem dX12_isCounted_39 : decode cX12_isCounted 39 = .ok (.iconst 1, 1) := dq_4 (fd_r fcX12_isCounted (by decide +kernel))
theorem dX12_isCounted_40 : decode cX12_isCounted 40 = .ok (.goto 4, 3) := dq_167 (a := 0) (b := 4) (fd_r fcX12_isCounted (by decide +kernel)) rfl
theorem dX12_isCounted_43 : decode cX12_isCounted 43 = .ok (.iconst 0, 1) := dq_3 (fd_r fcX12_isCounted (by decide +kernel))
theorem dX12_isCounted_44 : decode cX12_isCounted 44 = .ok (.ireturn, 1) := dq_172 (fd_r fcX12_isCounted (by decide +kernel))
theorem dX12_kindNamed_0 : decode cX12_kindNamed 0 = .ok (.iconst 0, 1) := dq_3 (fd_r fcX12_kindNamed (by decide +kernel))
theorem dX12_kindNamed_1 : decode cX12_kindNamed 1 = .ok (.istore_n 3, 1) := dq_62 (fd_r fcX12_kindNamed (by decide +kernel))
theorem dX12_kindNamed_2 : decode cX12_kindNamed 2 = .ok (.iload_n 3, 1) := dq_29 (fd_r fcX12_kindNamed (by decide +kernel))
theorem dX12_kindNamed_3 : decode cX12_kindNamed 3 = .ok (.aload_n 0, 1) := dq_42 (fd_r fcX12_kindNamed (by decide +kernel))
theorem dX12_kindNamed_4 : decode cX12_kindNamed 4 = .ok (.getfield 54, 3) := dq_180 (a := 0) (b := 54) (fd_r fcX12_kindNamed (by decide +kernel)) rfl
theorem dX12_kindNamed_7 : decode cX12_kindNamed 7 = .ok (.aload_n 0, 1) := dq_42 (fd_r fcX12_kindNamed (by decide +kernel))
theorem dX12_kindNamed_8 : decode cX12_kindNamed 8 = .ok (.getfield 124, 3) := dq_180 (a := 0) (b := 124) (fd_r fcX12_kindNamed (by decide +kernel)) rfl
theorem dX12_kindNamed_11 : decode cX12_kindNamed 11 = .ok (.iaload, 1) := dq_46 (fd_r fcX12_kindNamed (by decide +kernel))
theorem dX12_kindNamed_12 : decode cX12_kindNamed 12 = .ok (.if_icmp .ge 29, 3) := dq_162 (a := 0) (b := 29) (fd_r fcX12_kindNamed (by decide +kernel)) rfl
theorem dX12_kindNamed_15 : decode cX12_kindNamed 15 = .ok (.aload_n 0, 1) := dq_42 (fd_r fcX12_kindNamed (by decide +kernel))
theorem dX12_kindNamed_16 : decode cX12_kindNamed 16 = .ok (.getfield 114, 3) := dq_180 (a := 0) (b := 114) (fd_r fcX12_kindNamed (by decide +kernel)) rfl
theorem dX12_kindNamed_19 : decode cX12_kindNamed 19 = .ok (.iconst 4, 1) := dq_7 (fd_r fcX12_kindNamed (by decide +kernel))
theorem dX12_kindNamed_20 : decode cX12_kindNamed 20 = .ok (.aload_n 0, 1) := dq_42 (fd_r fcX12_kindNamed (by decide +kernel))
theorem dX12_kindNamed_21 : decode cX12_kindNamed 21 = .ok (.getfield 124, 3) := dq_180 (a := 0) (b := 124) (fd_r fcX12_kindNamed (by decide +kernel)) rfl
theorem dX12_kindNamed_24 : decode cX12_kindNamed 24 = .ok (.imul, 1) := dq_104 (fd_r fcX12_kindNamed (by decide +kernel))
theorem dX12_kindNamed_25 : decode cX12_kindNamed 25 = .ok (.iload_n 3, 1) := dq_29 (fd_r fcX12_kindNamed (by decide +kernel))
theorem dX12_kindNamed_26 : decode cX12_kindNamed 26 = .ok (.iadd, 1) := dq_96 (fd_r fcX12_kindNamed (by decide +kernel))
theorem dX12_kindNamed_27 : decode cX12_kindNamed 27 = .ok (.laload, 1) := dq_47 (fd_r fcX12_kindNamed (by decide +kernel))
theorem dX12_kindNamed_28 : decode cX12_kindNamed 28 = .ok (.lload_n 1, 1) := dq_31 (fd_r fcX12_kindNamed (by decide +kernel))
theorem dX12_kindNamed_29 : decode cX12_kindNamed 29 = .ok (.lcmp, 1) := dq_148 (fd_r fcX12_kindNamed (by decide +kernel))
theorem dX12_kindNamed_30 : decode cX12_kindNamed 30 = .ok (.ifCond .ne 5, 3) := dq_154 (a := 0) (b := 5) (fd_r fcX12_kindNamed (by decide +kernel)) rfl
theorem dX12_kindNamed_33 : decode cX12_kindNamed 33 = .ok (.iload_n 3, 1) := dq_29 (fd_r fcX12_kindNamed (by decide +kernel))
theorem dX12_kindNamed_34 : decode cX12_kindNamed 34 = .ok (.ireturn, 1) := dq_172 (fd_r fcX12_kindNamed (by decide +kernel))
theorem dX12_kindNamed_35 : decode cX12_kindNamed 35 = .ok (.iinc 3 1, 3) := dq_132 (a := 3) (b := 1) (fd_r fcX12_kindNamed (by decide +kernel)) rfl
theorem dX12_kindNamed_38 : decode cX12_kindNamed 38 = .ok (.goto (-36), 3) := dq_167 (a := 255) (b := 220) (fd_r fcX12_kindNamed (by decide +kernel)) rfl
theorem dX12_kindNamed_41 : decode cX12_kindNamed 41 = .ok (.iconst (-1), 1) := dq_2 (fd_r fcX12_kindNamed (by decide +kernel))
theorem dX12_kindNamed_42 : decode cX12_kindNamed 42 = .ok (.ireturn, 1) := dq_172 (fd_r fcX12_kindNamed (by decide +kernel))
theorem dX12_conNamed_0 : decode cX12_conNamed 0 = .ok (.iconst 0, 1) := dq_3 (fd_r fcX12_conNamed (by decide +kernel))
theorem dX12_conNamed_1 : decode cX12_conNamed 1 = .ok (.istore 4, 2) := dq_54 (a := 4) (fd_r fcX12_conNamed (by decide +kernel))
theorem dX12_conNamed_3 : decode cX12_conNamed 3 = .ok (.iload 4, 2) := dq_21 (a := 4) (fd_r fcX12_conNamed (by decide +kernel))
theorem dX12_conNamed_5 : decode cX12_conNamed 5 = .ok (.aload_n 0, 1) := dq_42 (fd_r fcX12_conNamed (by decide +kernel))
theorem dX12_conNamed_6 : decode cX12_conNamed 6 = .ok (.getfield 63, 3) := dq_180 (a := 0) (b := 63) (fd_r fcX12_conNamed (by decide +kernel)) rfl
theorem dX12_conNamed_9 : decode cX12_conNamed 9 = .ok (.iload_n 1, 1) := dq_27 (fd_r fcX12_conNamed (by decide +kernel))
theorem dX12_conNamed_10 : decode cX12_conNamed 10 = .ok (.iaload, 1) := dq_46 (fd_r fcX12_conNamed (by decide +kernel))
theorem dX12_conNamed_11 : decode cX12_conNamed 11 = .ok (.if_icmp .ge 29, 3) := dq_162 (a := 0) (b := 29) (fd_r fcX12_conNamed (by decide +kernel)) rfl
theorem dX12_conNamed_14 : decode cX12_conNamed 14 = .ok (.aload_n 0, 1) := dq_42 (fd_r fcX12_conNamed (by decide +kernel))
theorem dX12_conNamed_15 : decode cX12_conNamed 15 = .ok (.getfield 118, 3) := dq_180 (a := 0) (b := 118) (fd_r fcX12_conNamed (by decide +kernel)) rfl
theorem dX12_conNamed_18 : decode cX12_conNamed 18 = .ok (.bipush 24, 2) := dq_16 (a := 24) (fd_r fcX12_conNamed (by decide +kernel)) rfl
theorem dX12_conNamed_20 : decode cX12_conNamed 20 = .ok (.iload_n 1, 1) := dq_27 (fd_r fcX12_conNamed (by decide +kernel))
theorem dX12_conNamed_21 : decode cX12_conNamed 21 = .ok (.imul, 1) := dq_104 (fd_r fcX12_conNamed (by decide +kernel))
theorem dX12_conNamed_22 : decode cX12_conNamed 22 = .ok (.iload 4, 2) := dq_21 (a := 4) (fd_r fcX12_conNamed (by decide +kernel))
theorem dX12_conNamed_24 : decode cX12_conNamed 24 = .ok (.iadd, 1) := dq_96 (fd_r fcX12_conNamed (by decide +kernel))
theorem dX12_conNamed_25 : decode cX12_conNamed 25 = .ok (.laload, 1) := dq_47 (fd_r fcX12_conNamed (by decide +kernel))
theorem dX12_conNamed_26 : decode cX12_conNamed 26 = .ok (.lload_n 2, 1) := dq_32 (fd_r fcX12_conNamed (by decide +kernel))
theorem dX12_conNamed_27 : decode cX12_conNamed 27 = .ok (.lcmp, 1) := dq_148 (fd_r fcX12_conNamed (by decide +kernel))
theorem dX12_conNamed_28 : decode cX12_conNamed 28 = .ok (.ifCond .ne 6, 3) := dq_154 (a := 0) (b := 6) (fd_r fcX12_conNamed (by decide +kernel)) rfl
theorem dX12_conNamed_31 : decode cX12_conNamed 31 = .ok (.iload 4, 2) := dq_21 (a := 4) (fd_r fcX12_conNamed (by decide +kernel))
theorem dX12_conNamed_33 : decode cX12_conNamed 33 = .ok (.ireturn, 1) := dq_172 (fd_r fcX12_conNamed (by decide +kernel))
theorem dX12_conNamed_34 : decode cX12_conNamed 34 = .ok (.iinc 4 1, 3) := dq_132 (a := 4) (b := 1) (fd_r fcX12_conNamed (by decide +kernel)) rfl
theorem dX12_conNamed_37 : decode cX12_conNamed 37 = .ok (.goto (-34), 3) := dq_167 (a := 255) (b := 222) (fd_r fcX12_conNamed (by decide +kernel)) rfl
theorem dX12_conNamed_40 : decode cX12_conNamed 40 = .ok (.iconst (-1), 1) := dq_2 (fd_r fcX12_conNamed (by decide +kernel))
theorem dX12_conNamed_41 : decode cX12_conNamed 41 = .ok (.ireturn, 1) := dq_172 (fd_r fcX12_conNamed (by decide +kernel))
theorem dX12_valuesOf_0 : decode cX12_valuesOf 0 = .ok (.iload_n 2, 1) := dq_28 (fd_r fcX12_valuesOf (by decide +kernel))
theorem dX12_valuesOf_1 : decode cX12_valuesOf 1 = .ok (.iconst 4, 1) := dq_7 (fd_r fcX12_valuesOf (by decide +kernel))
theorem dX12_valuesOf_2 : decode cX12_valuesOf 2 = .ok (.if_icmp .ne 8, 3) := dq_160 (a := 0) (b := 8) (fd_r fcX12_valuesOf (by decide +kernel)) rfl
theorem dX12_valuesOf_5 : decode cX12_valuesOf 5 = .ok (.bipush 20, 2) := dq_16 (a := 20) (fd_r fcX12_valuesOf (by decide +kernel)) rfl
theorem dX12_valuesOf_7 : decode cX12_valuesOf 7 = .ok (.goto 13, 3) := dq_167 (a := 0) (b := 13) (fd_r fcX12_valuesOf (by decide +kernel)) rfl
theorem dX12_valuesOf_10 : decode cX12_valuesOf 10 = .ok (.aload_n 0, 1) := dq_42 (fd_r fcX12_valuesOf (by decide +kernel))
theorem dX12_valuesOf_11 : decode cX12_valuesOf 11 = .ok (.getfield 57, 3) := dq_180 (a := 0) (b := 57) (fd_r fcX12_valuesOf (by decide +kernel)) rfl
theorem dX12_valuesOf_14 : decode cX12_valuesOf 14 = .ok (.iconst 4, 1) := dq_7 (fd_r fcX12_valuesOf (by decide +kernel))
theorem dX12_valuesOf_15 : decode cX12_valuesOf 15 = .ok (.iload_n 1, 1) := dq_27 (fd_r fcX12_valuesOf (by decide +kernel))
theorem dX12_valuesOf_16 : decode cX12_valuesOf 16 = .ok (.imul, 1) := dq_104 (fd_r fcX12_valuesOf (by decide +kernel))
theorem dX12_valuesOf_17 : decode cX12_valuesOf 17 = .ok (.iload_n 2, 1) := dq_28 (fd_r fcX12_valuesOf (by decide +kernel))
theorem dX12_valuesOf_18 : decode cX12_valuesOf 18 = .ok (.iadd, 1) := dq_96 (fd_r fcX12_valuesOf (by decide +kernel))
theorem dX12_valuesOf_19 : decode cX12_valuesOf 19 = .ok (.iaload, 1) := dq_46 (fd_r fcX12_valuesOf (by decide +kernel))
theorem dX12_valuesOf_20 : decode cX12_valuesOf 20 = .ok (.ireturn, 1) := dq_172 (fd_r fcX12_valuesOf (by decide +kernel))
theorem dX12_fresh_0 : decode cX12_fresh 0 = .ok (.aload_n 0, 1) := dq_42 (fd_r fcX12_fresh (by decide +kernel))
theorem dX12_fresh_1 : decode cX12_fresh 1 = .ok (.invokevirtual 331, 3) := dq_182 (a := 1) (b := 75) (fd_r fcX12_fresh (by decide +kernel)) rfl
theorem dX12_fresh_4 : decode cX12_fresh 4 = .ok (.aload_n 0, 1) := dq_42 (fd_r fcX12_fresh (by decide +kernel))
theorem dX12_fresh_5 : decode cX12_fresh 5 = .ok (.getfield 36, 3) := dq_180 (a := 0) (b := 36) (fd_r fcX12_fresh (by decide +kernel)) rfl
theorem dX12_fresh_8 : decode cX12_fresh 8 = .ok (.ifCond .le 5, 3) := dq_158 (a := 0) (b := 5) (fd_r fcX12_fresh (by decide +kernel)) rfl
theorem dX12_fresh_11 : decode cX12_fresh 11 = .ok (.lconst 0, 1) := dq_9 (fd_r fcX12_fresh (by decide +kernel))
end
section
theorem dX12_fresh_12 : decode cX12_fresh 12 = .ok (.lreturn, 1) := dq_173 (fd_r fcX12_fresh (by decide +kernel))
theorem dX12_fresh_13 : decode cX12_fresh 13 = .ok (.aload_n 0, 1) := dq_42 (fd_r fcX12_fresh (by decide +kernel))
theorem dX12_fresh_14 : decode cX12_fresh 14 = .ok (.getfield 20, 3) := dq_180 (a := 0) (b := 20) (fd_r fcX12_fresh (by decide +kernel)) rfl
theorem dX12_fresh_17 : decode cX12_fresh 17 = .ok (.iconst 1, 1) := dq_4 (fd_r fcX12_fresh (by decide +kernel))
theorem dX12_fresh_18 : decode cX12_fresh 18 = .ok (.if_icmp .ne 14, 3) := dq_160 (a := 0) (b := 14) (fd_r fcX12_fresh (by decide +kernel)) rfl
theorem dX12_fresh_21 : decode cX12_fresh 21 = .ok (.aload_n 0, 1) := dq_42 (fd_r fcX12_fresh (by decide +kernel))
theorem dX12_fresh_22 : decode cX12_fresh 22 = .ok (.aload_n 0, 1) := dq_42 (fd_r fcX12_fresh (by decide +kernel))
theorem dX12_fresh_23 : decode cX12_fresh 23 = .ok (.getfield 32, 3) := dq_180 (a := 0) (b := 32) (fd_r fcX12_fresh (by decide +kernel)) rfl
theorem dX12_fresh_26 : decode cX12_fresh 26 = .ok (.invokevirtual 366, 3) := dq_182 (a := 1) (b := 110) (fd_r fcX12_fresh (by decide +kernel)) rfl
theorem dX12_fresh_29 : decode cX12_fresh 29 = .ok (.ifCond .eq 12, 3) := dq_153 (a := 0) (b := 12) (fd_r fcX12_fresh (by decide +kernel)) rfl
theorem dX12_fresh_32 : decode cX12_fresh 32 = .ok (.aload_n 0, 1) := dq_42 (fd_r fcX12_fresh (by decide +kernel))
theorem dX12_fresh_33 : decode cX12_fresh 33 = .ok (.iconst 1, 1) := dq_4 (fd_r fcX12_fresh (by decide +kernel))
theorem dX12_fresh_34 : decode cX12_fresh 34 = .ok (.aload_n 0, 1) := dq_42 (fd_r fcX12_fresh (by decide +kernel))
theorem dX12_fresh_35 : decode cX12_fresh 35 = .ok (.getfield 23, 3) := dq_180 (a := 0) (b := 23) (fd_r fcX12_fresh (by decide +kernel)) rfl
theorem dX12_fresh_38 : decode cX12_fresh 38 = .ok (.invokevirtual 320, 3) := dq_182 (a := 1) (b := 64) (fd_r fcX12_fresh (by decide +kernel)) rfl
theorem dX12_fresh_41 : decode cX12_fresh 41 = .ok (.aload_n 0, 1) := dq_42 (fd_r fcX12_fresh (by decide +kernel))
theorem dX12_fresh_42 : decode cX12_fresh 42 = .ok (.getfield 36, 3) := dq_180 (a := 0) (b := 36) (fd_r fcX12_fresh (by decide +kernel)) rfl
theorem dX12_fresh_45 : decode cX12_fresh 45 = .ok (.ifCond .ne 40, 3) := dq_154 (a := 0) (b := 40) (fd_r fcX12_fresh (by decide +kernel)) rfl
theorem dX12_fresh_48 : decode cX12_fresh 48 = .ok (.aload_n 0, 1) := dq_42 (fd_r fcX12_fresh (by decide +kernel))
theorem dX12_fresh_49 : decode cX12_fresh 49 = .ok (.aload_n 0, 1) := dq_42 (fd_r fcX12_fresh (by decide +kernel))
theorem dX12_fresh_50 : decode cX12_fresh 50 = .ok (.getfield 32, 3) := dq_180 (a := 0) (b := 32) (fd_r fcX12_fresh (by decide +kernel)) rfl
theorem dX12_fresh_53 : decode cX12_fresh 53 = .ok (.invokevirtual 370, 3) := dq_182 (a := 1) (b := 114) (fd_r fcX12_fresh (by decide +kernel)) rfl
theorem dX12_fresh_56 : decode cX12_fresh 56 = .ok (.iconst (-1), 1) := dq_2 (fd_r fcX12_fresh (by decide +kernel))
theorem dX12_fresh_57 : decode cX12_fresh 57 = .ok (.if_icmp .ne 19, 3) := dq_160 (a := 0) (b := 19) (fd_r fcX12_fresh (by decide +kernel)) rfl
theorem dX12_fresh_60 : decode cX12_fresh 60 = .ok (.aload_n 0, 1) := dq_42 (fd_r fcX12_fresh (by decide +kernel))
theorem dX12_fresh_61 : decode cX12_fresh 61 = .ok (.aload_n 0, 1) := dq_42 (fd_r fcX12_fresh (by decide +kernel))
theorem dX12_fresh_62 : decode cX12_fresh 62 = .ok (.getfield 124, 3) := dq_180 (a := 0) (b := 124) (fd_r fcX12_fresh (by decide +kernel)) rfl
theorem dX12_fresh_65 : decode cX12_fresh 65 = .ok (.aload_n 0, 1) := dq_42 (fd_r fcX12_fresh (by decide +kernel))
theorem dX12_fresh_66 : decode cX12_fresh 66 = .ok (.getfield 32, 3) := dq_180 (a := 0) (b := 32) (fd_r fcX12_fresh (by decide +kernel)) rfl
theorem dX12_fresh_69 : decode cX12_fresh 69 = .ok (.invokevirtual 374, 3) := dq_182 (a := 1) (b := 118) (fd_r fcX12_fresh (by decide +kernel)) rfl
theorem dX12_fresh_72 : decode cX12_fresh 72 = .ok (.iconst (-1), 1) := dq_2 (fd_r fcX12_fresh (by decide +kernel))
theorem dX12_fresh_73 : decode cX12_fresh 73 = .ok (.if_icmp .eq 12, 3) := dq_159 (a := 0) (b := 12) (fd_r fcX12_fresh (by decide +kernel)) rfl
theorem dX12_fresh_76 : decode cX12_fresh 76 = .ok (.aload_n 0, 1) := dq_42 (fd_r fcX12_fresh (by decide +kernel))
theorem dX12_fresh_77 : decode cX12_fresh 77 = .ok (.iconst 2, 1) := dq_5 (fd_r fcX12_fresh (by decide +kernel))
theorem dX12_fresh_78 : decode cX12_fresh 78 = .ok (.aload_n 0, 1) := dq_42 (fd_r fcX12_fresh (by decide +kernel))
theorem dX12_fresh_79 : decode cX12_fresh 79 = .ok (.getfield 23, 3) := dq_180 (a := 0) (b := 23) (fd_r fcX12_fresh (by decide +kernel)) rfl
theorem dX12_fresh_82 : decode cX12_fresh 82 = .ok (.invokevirtual 320, 3) := dq_182 (a := 1) (b := 64) (fd_r fcX12_fresh (by decide +kernel)) rfl
theorem dX12_fresh_85 : decode cX12_fresh 85 = .ok (.aload_n 0, 1) := dq_42 (fd_r fcX12_fresh (by decide +kernel))
theorem dX12_fresh_86 : decode cX12_fresh 86 = .ok (.getfield 32, 3) := dq_180 (a := 0) (b := 32) (fd_r fcX12_fresh (by decide +kernel)) rfl
theorem dX12_fresh_89 : decode cX12_fresh 89 = .ok (.lstore_n 1, 1) := dq_64 (fd_r fcX12_fresh (by decide +kernel))
theorem dX12_fresh_90 : decode cX12_fresh 90 = .ok (.aload_n 0, 1) := dq_42 (fd_r fcX12_fresh (by decide +kernel))
theorem dX12_fresh_91 : decode cX12_fresh 91 = .ok (.getfield 36, 3) := dq_180 (a := 0) (b := 36) (fd_r fcX12_fresh (by decide +kernel)) rfl
theorem dX12_fresh_94 : decode cX12_fresh 94 = .ok (.ifCond .ne 7, 3) := dq_154 (a := 0) (b := 7) (fd_r fcX12_fresh (by decide +kernel)) rfl
theorem dX12_fresh_97 : decode cX12_fresh 97 = .ok (.aload_n 0, 1) := dq_42 (fd_r fcX12_fresh (by decide +kernel))
theorem dX12_fresh_98 : decode cX12_fresh 98 = .ok (.invokevirtual 337, 3) := dq_182 (a := 1) (b := 81) (fd_r fcX12_fresh (by decide +kernel)) rfl
theorem dX12_fresh_101 : decode cX12_fresh 101 = .ok (.lload_n 1, 1) := dq_31 (fd_r fcX12_fresh (by decide +kernel))
theorem dX12_fresh_102 : decode cX12_fresh 102 = .ok (.lreturn, 1) := dq_173 (fd_r fcX12_fresh (by decide +kernel))
theorem dX12_kindIs_0 : decode cX12_kindIs 0 = .ok (.aload_n 0, 1) := dq_42 (fd_r fcX12_kindIs (by decide +kernel))
theorem dX12_kindIs_1 : decode cX12_kindIs 1 = .ok (.getfield 127, 3) := dq_180 (a := 0) (b := 127) (fd_r fcX12_kindIs (by decide +kernel)) rfl
theorem dX12_kindIs_4 : decode cX12_kindIs 4 = .ok (.ifCond .eq 12, 3) := dq_153 (a := 0) (b := 12) (fd_r fcX12_kindIs (by decide +kernel)) rfl
theorem dX12_kindIs_7 : decode cX12_kindIs 7 = .ok (.aload_n 0, 1) := dq_42 (fd_r fcX12_kindIs (by decide +kernel))
theorem dX12_kindIs_8 : decode cX12_kindIs 8 = .ok (.iconst 1, 1) := dq_4 (fd_r fcX12_kindIs (by decide +kernel))
theorem dX12_kindIs_9 : decode cX12_kindIs 9 = .ok (.aload_n 0, 1) := dq_42 (fd_r fcX12_kindIs (by decide +kernel))
theorem dX12_kindIs_10 : decode cX12_kindIs 10 = .ok (.getfield 23, 3) := dq_180 (a := 0) (b := 23) (fd_r fcX12_kindIs (by decide +kernel)) rfl
theorem dX12_kindIs_13 : decode cX12_kindIs 13 = .ok (.invokevirtual 320, 3) := dq_182 (a := 1) (b := 64) (fd_r fcX12_kindIs (by decide +kernel)) rfl
theorem dX12_kindIs_16 : decode cX12_kindIs 16 = .ok (.aload_n 0, 1) := dq_42 (fd_r fcX12_kindIs (by decide +kernel))
theorem dX12_kindIs_17 : decode cX12_kindIs 17 = .ok (.aload_n 0, 1) := dq_42 (fd_r fcX12_kindIs (by decide +kernel))
theorem dX12_kindIs_18 : decode cX12_kindIs 18 = .ok (.getfield 54, 3) := dq_180 (a := 0) (b := 54) (fd_r fcX12_kindIs (by decide +kernel)) rfl
theorem dX12_kindIs_21 : decode cX12_kindIs 21 = .ok (.aload_n 0, 1) := dq_42 (fd_r fcX12_kindIs (by decide +kernel))
theorem dX12_kindIs_22 : decode cX12_kindIs 22 = .ok (.getfield 124, 3) := dq_180 (a := 0) (b := 124) (fd_r fcX12_kindIs (by decide +kernel)) rfl
theorem dX12_kindIs_25 : decode cX12_kindIs 25 = .ok (.iaload, 1) := dq_46 (fd_r fcX12_kindIs (by decide +kernel))
theorem dX12_kindIs_26 : decode cX12_kindIs 26 = .ok (.iconst 4, 1) := dq_7 (fd_r fcX12_kindIs (by decide +kernel))
theorem dX12_kindIs_27 : decode cX12_kindIs 27 = .ok (.if_icmp .ne 7, 3) := dq_160 (a := 0) (b := 7) (fd_r fcX12_kindIs (by decide +kernel)) rfl
theorem dX12_kindIs_30 : decode cX12_kindIs 30 = .ok (.iconst 1, 1) := dq_4 (fd_r fcX12_kindIs (by decide +kernel))
theorem dX12_kindIs_31 : decode cX12_kindIs 31 = .ok (.goto 4, 3) := dq_167 (a := 0) (b := 4) (fd_r fcX12_kindIs (by decide +kernel)) rfl
theorem dX12_kindIs_34 : decode cX12_kindIs 34 = .ok (.iconst 0, 1) := dq_3 (fd_r fcX12_kindIs (by decide +kernel))
theorem dX12_kindIs_35 : decode cX12_kindIs 35 = .ok (.invokevirtual 378, 3) := dq_182 (a := 1) (b := 122) (fd_r fcX12_kindIs (by decide +kernel)) rfl
theorem dX12_kindIs_38 : decode cX12_kindIs 38 = .ok (.ifCond .ne 4, 3) := dq_154 (a := 0) (b := 4) (fd_r fcX12_kindIs (by decide +kernel)) rfl
theorem dX12_kindIs_41 : decode cX12_kindIs 41 = .ok (.return_, 1) := dq_177 (fd_r fcX12_kindIs (by decide +kernel))
theorem dX12_kindIs_42 : decode cX12_kindIs 42 = .ok (.aload_n 0, 1) := dq_42 (fd_r fcX12_kindIs (by decide +kernel))
theorem dX12_kindIs_43 : decode cX12_kindIs 43 = .ok (.invokevirtual 382, 3) := dq_182 (a := 1) (b := 126) (fd_r fcX12_kindIs (by decide +kernel)) rfl
theorem dX12_kindIs_46 : decode cX12_kindIs 46 = .ok (.lstore_n 1, 1) := dq_64 (fd_r fcX12_kindIs (by decide +kernel))
theorem dX12_kindIs_47 : decode cX12_kindIs 47 = .ok (.aload_n 0, 1) := dq_42 (fd_r fcX12_kindIs (by decide +kernel))
theorem dX12_kindIs_48 : decode cX12_kindIs 48 = .ok (.getfield 36, 3) := dq_180 (a := 0) (b := 36) (fd_r fcX12_kindIs (by decide +kernel)) rfl
theorem dX12_kindIs_51 : decode cX12_kindIs 51 = .ok (.ifCond .le 4, 3) := dq_158 (a := 0) (b := 4) (fd_r fcX12_kindIs (by decide +kernel)) rfl
theorem dX12_kindIs_54 : decode cX12_kindIs 54 = .ok (.return_, 1) := dq_177 (fd_r fcX12_kindIs (by decide +kernel))
theorem dX12_kindIs_55 : decode cX12_kindIs 55 = .ok (.iconst 4, 1) := dq_7 (fd_r fcX12_kindIs (by decide +kernel))
theorem dX12_kindIs_56 : decode cX12_kindIs 56 = .ok (.aload_n 0, 1) := dq_42 (fd_r fcX12_kindIs (by decide +kernel))
theorem dX12_kindIs_57 : decode cX12_kindIs 57 = .ok (.getfield 124, 3) := dq_180 (a := 0) (b := 124) (fd_r fcX12_kindIs (by decide +kernel)) rfl
theorem dX12_kindIs_60 : decode cX12_kindIs 60 = .ok (.imul, 1) := dq_104 (fd_r fcX12_kindIs (by decide +kernel))
theorem dX12_kindIs_61 : decode cX12_kindIs 61 = .ok (.aload_n 0, 1) := dq_42 (fd_r fcX12_kindIs (by decide +kernel))
theorem dX12_kindIs_62 : decode cX12_kindIs 62 = .ok (.getfield 54, 3) := dq_180 (a := 0) (b := 54) (fd_r fcX12_kindIs (by decide +kernel)) rfl
theorem dX12_kindIs_65 : decode cX12_kindIs 65 = .ok (.aload_n 0, 1) := dq_42 (fd_r fcX12_kindIs (by decide +kernel))
theorem dX12_kindIs_66 : decode cX12_kindIs 66 = .ok (.getfield 124, 3) := dq_180 (a := 0) (b := 124) (fd_r fcX12_kindIs (by decide +kernel)) rfl
theorem dX12_kindIs_69 : decode cX12_kindIs 69 = .ok (.iaload, 1) := dq_46 (fd_r fcX12_kindIs (by decide +kernel))
theorem dX12_kindIs_70 : decode cX12_kindIs 70 = .ok (.iadd, 1) := dq_96 (fd_r fcX12_kindIs (by decide +kernel))
theorem dX12_kindIs_71 : decode cX12_kindIs 71 = .ok (.istore_n 3, 1) := dq_62 (fd_r fcX12_kindIs (by decide +kernel))
theorem dX12_kindIs_72 : decode cX12_kindIs 72 = .ok (.aload_n 0, 1) := dq_42 (fd_r fcX12_kindIs (by decide +kernel))
theorem dX12_kindIs_73 : decode cX12_kindIs 73 = .ok (.getfield 114, 3) := dq_180 (a := 0) (b := 114) (fd_r fcX12_kindIs (by decide +kernel)) rfl
theorem dX12_kindIs_76 : decode cX12_kindIs 76 = .ok (.iload_n 3, 1) := dq_29 (fd_r fcX12_kindIs (by decide +kernel))
theorem dX12_kindIs_77 : decode cX12_kindIs 77 = .ok (.lload_n 1, 1) := dq_31 (fd_r fcX12_kindIs (by decide +kernel))
theorem dX12_kindIs_78 : decode cX12_kindIs 78 = .ok (.lastore, 1) := dq_80 (fd_r fcX12_kindIs (by decide +kernel))
theorem dX12_kindIs_79 : decode cX12_kindIs 79 = .ok (.aload_n 0, 1) := dq_42 (fd_r fcX12_kindIs (by decide +kernel))
theorem dX12_kindIs_80 : decode cX12_kindIs 80 = .ok (.getfield 57, 3) := dq_180 (a := 0) (b := 57) (fd_r fcX12_kindIs (by decide +kernel)) rfl
theorem dX12_kindIs_83 : decode cX12_kindIs 83 = .ok (.iload_n 3, 1) := dq_29 (fd_r fcX12_kindIs (by decide +kernel))
theorem dX12_kindIs_84 : decode cX12_kindIs 84 = .ok (.iconst 0, 1) := dq_3 (fd_r fcX12_kindIs (by decide +kernel))
theorem dX12_kindIs_85 : decode cX12_kindIs 85 = .ok (.iastore, 1) := dq_79 (fd_r fcX12_kindIs (by decide +kernel))
theorem dX12_kindIs_86 : decode cX12_kindIs 86 = .ok (.aload_n 0, 1) := dq_42 (fd_r fcX12_kindIs (by decide +kernel))
theorem dX12_kindIs_87 : decode cX12_kindIs 87 = .ok (.getfield 60, 3) := dq_180 (a := 0) (b := 60) (fd_r fcX12_kindIs (by decide +kernel)) rfl
theorem dX12_kindIs_90 : decode cX12_kindIs 90 = .ok (.iload_n 3, 1) := dq_29 (fd_r fcX12_kindIs (by decide +kernel))
theorem dX12_kindIs_91 : decode cX12_kindIs 91 = .ok (.iconst 0, 1) := dq_3 (fd_r fcX12_kindIs (by decide +kernel))
theorem dX12_kindIs_92 : decode cX12_kindIs 92 = .ok (.iastore, 1) := dq_79 (fd_r fcX12_kindIs (by decide +kernel))
theorem dX12_kindIs_93 : decode cX12_kindIs 93 = .ok (.aload_n 0, 1) := dq_42 (fd_r fcX12_kindIs (by decide +kernel))
theorem dX12_kindIs_94 : decode cX12_kindIs 94 = .ok (.getfield 54, 3) := dq_180 (a := 0) (b := 54) (fd_r fcX12_kindIs (by decide +kernel)) rfl
theorem dX12_kindIs_97 : decode cX12_kindIs 97 = .ok (.aload_n 0, 1) := dq_42 (fd_r fcX12_kindIs (by decide +kernel))
theorem dX12_kindIs_98 : decode cX12_kindIs 98 = .ok (.getfield 124, 3) := dq_180 (a := 0) (b := 124) (fd_r fcX12_kindIs (by decide +kernel)) rfl
theorem dX12_kindIs_101 : decode cX12_kindIs 101 = .ok (.dup2, 1) := dq_92 (fd_r fcX12_kindIs (by decide +kernel))
theorem dX12_kindIs_102 : decode cX12_kindIs 102 = .ok (.iaload, 1) := dq_46 (fd_r fcX12_kindIs (by decide +kernel))
theorem dX12_kindIs_103 : decode cX12_kindIs 103 = .ok (.iconst 1, 1) := dq_4 (fd_r fcX12_kindIs (by decide +kernel))
theorem dX12_kindIs_104 : decode cX12_kindIs 104 = .ok (.iadd, 1) := dq_96 (fd_r fcX12_kindIs (by decide +kernel))
theorem dX12_kindIs_105 : decode cX12_kindIs 105 = .ok (.iastore, 1) := dq_79 (fd_r fcX12_kindIs (by decide +kernel))
theorem dX12_kindIs_106 : decode cX12_kindIs 106 = .ok (.return_, 1) := dq_177 (fd_r fcX12_kindIs (by decide +kernel))
theorem dX12_known_0 : decode cX12_known 0 = .ok (.aload_n 0, 1) := dq_42 (fd_r fcX12_known (by decide +kernel))
theorem dX12_known_1 : decode cX12_known 1 = .ok (.invokevirtual 331, 3) := dq_182 (a := 1) (b := 75) (fd_r fcX12_known (by decide +kernel)) rfl
theorem dX12_known_4 : decode cX12_known 4 = .ok (.aload_n 0, 1) := dq_42 (fd_r fcX12_known (by decide +kernel))
theorem dX12_known_5 : decode cX12_known 5 = .ok (.getfield 36, 3) := dq_180 (a := 0) (b := 36) (fd_r fcX12_known (by decide +kernel)) rfl
theorem dX12_known_8 : decode cX12_known 8 = .ok (.ifCond .le 5, 3) := dq_158 (a := 0) (b := 5) (fd_r fcX12_known (by decide +kernel)) rfl
theorem dX12_known_11 : decode cX12_known 11 = .ok (.iconst 0, 1) := dq_3 (fd_r fcX12_known (by decide +kernel))
theorem dX12_known_12 : decode cX12_known 12 = .ok (.ireturn, 1) := dq_172 (fd_r fcX12_known (by decide +kernel))
theorem dX12_known_13 : decode cX12_known 13 = .ok (.aload_n 0, 1) := dq_42 (fd_r fcX12_known (by decide +kernel))
theorem dX12_known_14 : decode cX12_known 14 = .ok (.ldc2_w 354, 3) := dq_20 (a := 1) (b := 98) (fd_r fcX12_known (by decide +kernel)) rfl
theorem dX12_known_17 : decode cX12_known 17 = .ok (.invokevirtual 386, 3) := dq_182 (a := 1) (b := 130) (fd_r fcX12_known (by decide +kernel)) rfl
theorem dX12_known_20 : decode cX12_known 20 = .ok (.istore_n 2, 1) := dq_61 (fd_r fcX12_known (by decide +kernel))
theorem dX12_known_21 : decode cX12_known 21 = .ok (.aload_n 0, 1) := dq_42 (fd_r fcX12_known (by decide +kernel))
theorem dX12_known_22 : decode cX12_known 22 = .ok (.getfield 20, 3) := dq_180 (a := 0) (b := 20) (fd_r fcX12_known (by decide +kernel)) rfl
theorem dX12_known_25 : decode cX12_known 25 = .ok (.iconst 1, 1) := dq_4 (fd_r fcX12_known (by decide +kernel))
theorem dX12_known_26 : decode cX12_known 26 = .ok (.if_icmp .ne 18, 3) := dq_160 (a := 0) (b := 18) (fd_r fcX12_known (by decide +kernel)) rfl
theorem dX12_known_29 : decode cX12_known 29 = .ok (.aload_n 0, 1) := dq_42 (fd_r fcX12_known (by decide +kernel))
theorem dX12_known_30 : decode cX12_known 30 = .ok (.aload_n 0, 1) := dq_42 (fd_r fcX12_known (by decide +kernel))
theorem dX12_known_31 : decode cX12_known 31 = .ok (.getfield 32, 3) := dq_180 (a := 0) (b := 32) (fd_r fcX12_known (by decide +kernel)) rfl
theorem dX12_known_34 : decode cX12_known 34 = .ok (.invokevirtual 366, 3) := dq_182 (a := 1) (b := 110) (fd_r fcX12_known (by decide +kernel)) rfl
theorem dX12_known_37 : decode cX12_known 37 = .ok (.ifCond .eq 16, 3) := dq_153 (a := 0) (b := 16) (fd_r fcX12_known (by decide +kernel)) rfl
theorem dX12_known_40 : decode cX12_known 40 = .ok (.iload_n 2, 1) := dq_28 (fd_r fcX12_known (by decide +kernel))
theorem dX12_known_41 : decode cX12_known 41 = .ok (.ifCond .ne 12, 3) := dq_154 (a := 0) (b := 12) (fd_r fcX12_known (by decide +kernel)) rfl
theorem dX12_known_53 : decode cX12_known 53 = .ok (.aload_n 0, 1) := dq_42 (fd_r fcX12_known (by decide +kernel))
theorem dX12_known_54 : decode cX12_known 54 = .ok (.getfield 36, 3) := dq_180 (a := 0) (b := 36) (fd_r fcX12_known (by decide +kernel)) rfl
theorem dX12_known_57 : decode cX12_known 57 = .ok (.ifCond .gt 7, 3) := dq_157 (a := 0) (b := 7) (fd_r fcX12_known (by decide +kernel)) rfl
theorem dX12_known_60 : decode cX12_known 60 = .ok (.iload_n 2, 1) := dq_28 (fd_r fcX12_known (by decide +kernel))
theorem dX12_known_61 : decode cX12_known 61 = .ok (.ifCond .eq 7, 3) := dq_153 (a := 0) (b := 7) (fd_r fcX12_known (by decide +kernel)) rfl
theorem dX12_known_64 : decode cX12_known 64 = .ok (.iconst 4, 1) := dq_7 (fd_r fcX12_known (by decide +kernel))
theorem dX12_known_65 : decode cX12_known 65 = .ok (.goto 11, 3) := dq_167 (a := 0) (b := 11) (fd_r fcX12_known (by decide +kernel)) rfl
theorem dX12_known_68 : decode cX12_known 68 = .ok (.aload_n 0, 1) := dq_42 (fd_r fcX12_known (by decide +kernel))
theorem dX12_known_69 : decode cX12_known 69 = .ok (.aload_n 0, 1) := dq_42 (fd_r fcX12_known (by decide +kernel))
theorem dX12_known_70 : decode cX12_known 70 = .ok (.getfield 32, 3) := dq_180 (a := 0) (b := 32) (fd_r fcX12_known (by decide +kernel)) rfl
theorem dX12_known_73 : decode cX12_known 73 = .ok (.invokevirtual 370, 3) := dq_182 (a := 1) (b := 114) (fd_r fcX12_known (by decide +kernel)) rfl
theorem dX12_known_76 : decode cX12_known 76 = .ok (.istore_n 3, 1) := dq_62 (fd_r fcX12_known (by decide +kernel))
theorem dX12_known_77 : decode cX12_known 77 = .ok (.aload_n 0, 1) := dq_42 (fd_r fcX12_known (by decide +kernel))
theorem dX12_known_78 : decode cX12_known 78 = .ok (.getfield 36, 3) := dq_180 (a := 0) (b := 36) (fd_r fcX12_known (by decide +kernel)) rfl
theorem dX12_known_81 : decode cX12_known 81 = .ok (.ifCond .ne 42, 3) := dq_154 (a := 0) (b := 42) (fd_r fcX12_known (by decide +kernel)) rfl
theorem dX12_known_84 : decode cX12_known 84 = .ok (.iload_n 2, 1) := dq_28 (fd_r fcX12_known (by decide +kernel))
theorem dX12_known_85 : decode cX12_known 85 = .ok (.ifCond .ne 38, 3) := dq_154 (a := 0) (b := 38) (fd_r fcX12_known (by decide +kernel)) rfl
theorem dX12_known_88 : decode cX12_known 88 = .ok (.iload_n 3, 1) := dq_29 (fd_r fcX12_known (by decide +kernel))
theorem dX12_known_89 : decode cX12_known 89 = .ok (.iconst (-1), 1) := dq_2 (fd_r fcX12_known (by decide +kernel))
theorem dX12_known_90 : decode cX12_known 90 = .ok (.if_icmp .eq 24, 3) := dq_159 (a := 0) (b := 24) (fd_r fcX12_known (by decide +kernel)) rfl
theorem dX12_known_93 : decode cX12_known 93 = .ok (.iload_n 3, 1) := dq_29 (fd_r fcX12_known (by decide +kernel))
theorem dX12_known_94 : decode cX12_known 94 = .ok (.iload_n 1, 1) := dq_27 (fd_r fcX12_known (by decide +kernel))
theorem dX12_known_95 : decode cX12_known 95 = .ok (.if_icmp .ge 19, 3) := dq_162 (a := 0) (b := 19) (fd_r fcX12_known (by decide +kernel)) rfl
theorem dX12_known_98 : decode cX12_known 98 = .ok (.aload_n 0, 1) := dq_42 (fd_r fcX12_known (by decide +kernel))
theorem dX12_known_99 : decode cX12_known 99 = .ok (.getfield 57, 3) := dq_180 (a := 0) (b := 57) (fd_r fcX12_known (by decide +kernel)) rfl
theorem dX12_known_102 : decode cX12_known 102 = .ok (.iconst 4, 1) := dq_7 (fd_r fcX12_known (by decide +kernel))
theorem dX12_known_103 : decode cX12_known 103 = .ok (.aload_n 0, 1) := dq_42 (fd_r fcX12_known (by decide +kernel))
theorem dX12_known_104 : decode cX12_known 104 = .ok (.getfield 124, 3) := dq_180 (a := 0) (b := 124) (fd_r fcX12_known (by decide +kernel)) rfl
theorem dX12_known_107 : decode cX12_known 107 = .ok (.imul, 1) := dq_104 (fd_r fcX12_known (by decide +kernel))
theorem dX12_known_108 : decode cX12_known 108 = .ok (.iload_n 3, 1) := dq_29 (fd_r fcX12_known (by decide +kernel))
theorem dX12_known_109 : decode cX12_known 109 = .ok (.iadd, 1) := dq_96 (fd_r fcX12_known (by decide +kernel))
theorem dX12_known_110 : decode cX12_known 110 = .ok (.iaload, 1) := dq_46 (fd_r fcX12_known (by decide +kernel))
theorem dX12_known_111 : decode cX12_known 111 = .ok (.ifCond .ne 12, 3) := dq_154 (a := 0) (b := 12) (fd_r fcX12_known (by decide +kernel)) rfl
theorem dX12_known_114 : decode cX12_known 114 = .ok (.aload_n 0, 1) := dq_42 (fd_r fcX12_known (by decide +kernel))
theorem dX12_known_115 : decode cX12_known 115 = .ok (.iconst 3, 1) := dq_6 (fd_r fcX12_known (by decide +kernel))
theorem dX12_known_116 : decode cX12_known 116 = .ok (.aload_n 0, 1) := dq_42 (fd_r fcX12_known (by decide +kernel))
theorem dX12_known_117 : decode cX12_known 117 = .ok (.getfield 23, 3) := dq_180 (a := 0) (b := 23) (fd_r fcX12_known (by decide +kernel)) rfl
theorem dX12_known_120 : decode cX12_known 120 = .ok (.invokevirtual 320, 3) := dq_182 (a := 1) (b := 64) (fd_r fcX12_known (by decide +kernel)) rfl
theorem dX12_known_123 : decode cX12_known 123 = .ok (.aload_n 0, 1) := dq_42 (fd_r fcX12_known (by decide +kernel))
theorem dX12_known_124 : decode cX12_known 124 = .ok (.getfield 36, 3) := dq_180 (a := 0) (b := 36) (fd_r fcX12_known (by decide +kernel)) rfl
theorem dX12_known_127 : decode cX12_known 127 = .ok (.ifCond .le 7, 3) := dq_158 (a := 0) (b := 7) (fd_r fcX12_known (by decide +kernel)) rfl
theorem dX12_known_130 : decode cX12_known 130 = .ok (.iconst 4, 1) := dq_7 (fd_r fcX12_known (by decide +kernel))
theorem dX12_known_131 : decode cX12_known 131 = .ok (.goto 4, 3) := dq_167 (a := 0) (b := 4) (fd_r fcX12_known (by decide +kernel)) rfl
theorem dX12_known_134 : decode cX12_known 134 = .ok (.iload_n 3, 1) := dq_29 (fd_r fcX12_known (by decide +kernel))
theorem dX12_known_135 : decode cX12_known 135 = .ok (.ireturn, 1) := dq_172 (fd_r fcX12_known (by decide +kernel))
theorem dX12_isKindHere_0 : decode cX12_isKindHere 0 = .ok (.aload_n 0, 1) := dq_42 (fd_r fcX12_isKindHere (by decide +kernel))
theorem dX12_isKindHere_1 : decode cX12_isKindHere 1 = .ok (.getfield 20, 3) := dq_180 (a := 0) (b := 20) (fd_r fcX12_isKindHere (by decide +kernel)) rfl
theorem dX12_isKindHere_4 : decode cX12_isKindHere 4 = .ok (.iconst 1, 1) := dq_4 (fd_r fcX12_isKindHere (by decide +kernel))
theorem dX12_isKindHere_5 : decode cX12_isKindHere 5 = .ok (.if_icmp .ne 36, 3) := dq_160 (a := 0) (b := 36) (fd_r fcX12_isKindHere (by decide +kernel)) rfl
theorem dX12_isKindHere_8 : decode cX12_isKindHere 8 = .ok (.aload_n 0, 1) := dq_42 (fd_r fcX12_isKindHere (by decide +kernel))
theorem dX12_isKindHere_9 : decode cX12_isKindHere 9 = .ok (.getfield 48, 3) := dq_180 (a := 0) (b := 48) (fd_r fcX12_isKindHere (by decide +kernel)) rfl
theorem dX12_isKindHere_12 : decode cX12_isKindHere 12 = .ok (.iconst (-1), 1) := dq_2 (fd_r fcX12_isKindHere (by decide +kernel))
theorem dX12_isKindHere_13 : decode cX12_isKindHere 13 = .ok (.if_icmp .ne 28, 3) := dq_160 (a := 0) (b := 28) (fd_r fcX12_isKindHere (by decide +kernel)) rfl
theorem dX12_isKindHere_16 : decode cX12_isKindHere 16 = .ok (.aload_n 0, 1) := dq_42 (fd_r fcX12_isKindHere (by decide +kernel))
theorem dX12_isKindHere_17 : decode cX12_isKindHere 17 = .ok (.ldc2_w 354, 3) := dq_20 (a := 1) (b := 98) (fd_r fcX12_isKindHere (by decide +kernel)) rfl
theorem dX12_isKindHere_20 : decode cX12_isKindHere 20 = .ok (.invokevirtual 386, 3) := dq_182 (a := 1) (b := 130) (fd_r fcX12_isKindHere (by decide +kernel)) rfl
theorem dX12_isKindHere_23 : decode cX12_isKindHere 23 = .ok (.ifCond .ne 14, 3) := dq_154 (a := 0) (b := 14) (fd_r fcX12_isKindHere (by decide +kernel)) rfl
theorem dX12_isKindHere_26 : decode cX12_isKindHere 26 = .ok (.aload_n 0, 1) := dq_42 (fd_r fcX12_isKindHere (by decide +kernel))
theorem dX12_isKindHere_27 : decode cX12_isKindHere 27 = .ok (.aload_n 0, 1) := dq_42 (fd_r fcX12_isKindHere (by decide +kernel))
theorem dX12_isKindHere_28 : decode cX12_isKindHere 28 = .ok (.getfield 32, 3) := dq_180 (a := 0) (b := 32) (fd_r fcX12_isKindHere (by decide +kernel)) rfl
theorem dX12_isKindHere_31 : decode cX12_isKindHere 31 = .ok (.invokevirtual 366, 3) := dq_182 (a := 1) (b := 110) (fd_r fcX12_isKindHere (by decide +kernel)) rfl
theorem dX12_isKindHere_34 : decode cX12_isKindHere 34 = .ok (.ifCond .ne 7, 3) := dq_154 (a := 0) (b := 7) (fd_r fcX12_isKindHere (by decide +kernel)) rfl
theorem dX12_isKindHere_37 : decode cX12_isKindHere 37 = .ok (.iconst 1, 1) := dq_4 (fd_r fcX12_isKindHere (by decide +kernel))
theorem dX12_isKindHere_38 : decode cX12_isKindHere 38 = .ok (.goto 4, 3) := dq_167 (a := 0) (b := 4) (fd_r fcX12_isKindHere (by decide +kernel)) rfl
theorem dX12_isKindHere_41 : decode cX12_isKindHere 41 = .ok (.iconst 0, 1) := dq_3 (fd_r fcX12_isKindHere (by decide +kernel))
theorem dX12_isKindHere_42 : decode cX12_isKindHere 42 = .ok (.ireturn, 1) := dq_172 (fd_r fcX12_isKindHere (by decide +kernel))
theorem dX12_conIs_0 : decode cX12_conIs 0 = .ok (.aload_n 0, 1) := dq_42 (fd_r fcX12_conIs (by decide +kernel))
theorem dX12_conIs_1 : decode cX12_conIs 1 = .ok (.getfield 54, 3) := dq_180 (a := 0) (b := 54) (fd_r fcX12_conIs (by decide +kernel)) rfl
theorem dX12_conIs_4 : decode cX12_conIs 4 = .ok (.aload_n 0, 1) := dq_42 (fd_r fcX12_conIs (by decide +kernel))
theorem dX12_conIs_5 : decode cX12_conIs 5 = .ok (.getfield 124, 3) := dq_180 (a := 0) (b := 124) (fd_r fcX12_conIs (by decide +kernel)) rfl
theorem dX12_conIs_8 : decode cX12_conIs 8 = .ok (.iaload, 1) := dq_46 (fd_r fcX12_conIs (by decide +kernel))
theorem dX12_conIs_9 : decode cX12_conIs 9 = .ok (.iconst 1, 1) := dq_4 (fd_r fcX12_conIs (by decide +kernel))
theorem dX12_conIs_10 : decode cX12_conIs 10 = .ok (.isub, 1) := dq_100 (fd_r fcX12_conIs (by decide +kernel))
theorem dX12_conIs_11 : decode cX12_conIs 11 = .ok (.istore_n 1, 1) := dq_60 (fd_r fcX12_conIs (by decide +kernel))
theorem dX12_conIs_12 : decode cX12_conIs 12 = .ok (.aload_n 0, 1) := dq_42 (fd_r fcX12_conIs (by decide +kernel))
theorem dX12_conIs_13 : decode cX12_conIs 13 = .ok (.getfield 127, 3) := dq_180 (a := 0) (b := 127) (fd_r fcX12_conIs (by decide +kernel)) rfl
theorem dX12_conIs_16 : decode cX12_conIs 16 = .ok (.ifCond .ne 7, 3) := dq_154 (a := 0) (b := 7) (fd_r fcX12_conIs (by decide +kernel)) rfl
theorem dX12_conIs_19 : decode cX12_conIs 19 = .ok (.iload_n 1, 1) := dq_27 (fd_r fcX12_conIs (by decide +kernel))
theorem dX12_conIs_20 : decode cX12_conIs 20 = .ok (.ifCond .ge 12, 3) := dq_156 (a := 0) (b := 12) (fd_r fcX12_conIs (by decide +kernel)) rfl
theorem dX12_conIs_23 : decode cX12_conIs 23 = .ok (.aload_n 0, 1) := dq_42 (fd_r fcX12_conIs (by decide +kernel))
theorem dX12_conIs_24 : decode cX12_conIs 24 = .ok (.iconst 1, 1) := dq_4 (fd_r fcX12_conIs (by decide +kernel))
theorem dX12_conIs_25 : decode cX12_conIs 25 = .ok (.aload_n 0, 1) := dq_42 (fd_r fcX12_conIs (by decide +kernel))
theorem dX12_conIs_26 : decode cX12_conIs 26 = .ok (.getfield 23, 3) := dq_180 (a := 0) (b := 23) (fd_r fcX12_conIs (by decide +kernel)) rfl
theorem dX12_conIs_29 : decode cX12_conIs 29 = .ok (.invokevirtual 320, 3) := dq_182 (a := 1) (b := 64) (fd_r fcX12_conIs (by decide +kernel)) rfl
theorem dX12_conIs_32 : decode cX12_conIs 32 = .ok (.aload_n 0, 1) := dq_42 (fd_r fcX12_conIs (by decide +kernel))
theorem dX12_conIs_33 : decode cX12_conIs 33 = .ok (.iload_n 1, 1) := dq_27 (fd_r fcX12_conIs (by decide +kernel))
theorem dX12_conIs_34 : decode cX12_conIs 34 = .ok (.ifCond .lt 25, 3) := dq_155 (a := 0) (b := 25) (fd_r fcX12_conIs (by decide +kernel)) rfl
theorem dX12_conIs_37 : decode cX12_conIs 37 = .ok (.aload_n 0, 1) := dq_42 (fd_r fcX12_conIs (by decide +kernel))
theorem dX12_conIs_38 : decode cX12_conIs 38 = .ok (.getfield 60, 3) := dq_180 (a := 0) (b := 60) (fd_r fcX12_conIs (by decide +kernel)) rfl
theorem dX12_conIs_41 : decode cX12_conIs 41 = .ok (.iconst 4, 1) := dq_7 (fd_r fcX12_conIs (by decide +kernel))
theorem dX12_conIs_42 : decode cX12_conIs 42 = .ok (.aload_n 0, 1) := dq_42 (fd_r fcX12_conIs (by decide +kernel))
theorem dX12_conIs_43 : decode cX12_conIs 43 = .ok (.getfield 124, 3) := dq_180 (a := 0) (b := 124) (fd_r fcX12_conIs (by decide +kernel)) rfl
theorem dX12_conIs_46 : decode cX12_conIs 46 = .ok (.imul, 1) := dq_104 (fd_r fcX12_conIs (by decide +kernel))
theorem dX12_conIs_47 : decode cX12_conIs 47 = .ok (.iload_n 1, 1) := dq_27 (fd_r fcX12_conIs (by decide +kernel))
theorem dX12_conIs_48 : decode cX12_conIs 48 = .ok (.iadd, 1) := dq_96 (fd_r fcX12_conIs (by decide +kernel))
theorem dX12_conIs_49 : decode cX12_conIs 49 = .ok (.iaload, 1) := dq_46 (fd_r fcX12_conIs (by decide +kernel))
theorem dX12_conIs_50 : decode cX12_conIs 50 = .ok (.bipush 6, 2) := dq_16 (a := 6) (fd_r fcX12_conIs (by decide +kernel)) rfl
theorem dX12_conIs_52 : decode cX12_conIs 52 = .ok (.if_icmp .ne 7, 3) := dq_160 (a := 0) (b := 7) (fd_r fcX12_conIs (by decide +kernel)) rfl
theorem dX12_conIs_55 : decode cX12_conIs 55 = .ok (.iconst 1, 1) := dq_4 (fd_r fcX12_conIs (by decide +kernel))
theorem dX12_conIs_56 : decode cX12_conIs 56 = .ok (.goto 4, 3) := dq_167 (a := 0) (b := 4) (fd_r fcX12_conIs (by decide +kernel)) rfl
theorem dX12_conIs_59 : decode cX12_conIs 59 = .ok (.iconst 0, 1) := dq_3 (fd_r fcX12_conIs (by decide +kernel))
theorem dX12_conIs_60 : decode cX12_conIs 60 = .ok (.invokevirtual 378, 3) := dq_182 (a := 1) (b := 122) (fd_r fcX12_conIs (by decide +kernel)) rfl
theorem dX12_conIs_63 : decode cX12_conIs 63 = .ok (.ifCond .ne 4, 3) := dq_154 (a := 0) (b := 4) (fd_r fcX12_conIs (by decide +kernel)) rfl
theorem dX12_conIs_66 : decode cX12_conIs 66 = .ok (.return_, 1) := dq_177 (fd_r fcX12_conIs (by decide +kernel))
theorem dX12_conIs_67 : decode cX12_conIs 67 = .ok (.aload_n 0, 1) := dq_42 (fd_r fcX12_conIs (by decide +kernel))
theorem dX12_conIs_68 : decode cX12_conIs 68 = .ok (.invokevirtual 382, 3) := dq_182 (a := 1) (b := 126) (fd_r fcX12_conIs (by decide +kernel)) rfl
theorem dX12_conIs_71 : decode cX12_conIs 71 = .ok (.lstore_n 2, 1) := dq_65 (fd_r fcX12_conIs (by decide +kernel))
theorem dX12_conIs_72 : decode cX12_conIs 72 = .ok (.aload_n 0, 1) := dq_42 (fd_r fcX12_conIs (by decide +kernel))
theorem dX12_conIs_73 : decode cX12_conIs 73 = .ok (.getfield 36, 3) := dq_180 (a := 0) (b := 36) (fd_r fcX12_conIs (by decide +kernel)) rfl
theorem dX12_conIs_76 : decode cX12_conIs 76 = .ok (.ifCond .le 4, 3) := dq_158 (a := 0) (b := 4) (fd_r fcX12_conIs (by decide +kernel)) rfl
theorem dX12_conIs_79 : decode cX12_conIs 79 = .ok (.return_, 1) := dq_177 (fd_r fcX12_conIs (by decide +kernel))
theorem dX12_conIs_80 : decode cX12_conIs 80 = .ok (.bipush 24, 2) := dq_16 (a := 24) (fd_r fcX12_conIs (by decide +kernel)) rfl
theorem dX12_conIs_82 : decode cX12_conIs 82 = .ok (.aload_n 0, 1) := dq_42 (fd_r fcX12_conIs (by decide +kernel))
theorem dX12_conIs_83 : decode cX12_conIs 83 = .ok (.getfield 124, 3) := dq_180 (a := 0) (b := 124) (fd_r fcX12_conIs (by decide +kernel)) rfl
theorem dX12_conIs_86 : decode cX12_conIs 86 = .ok (.imul, 1) := dq_104 (fd_r fcX12_conIs (by decide +kernel))
theorem dX12_conIs_87 : decode cX12_conIs 87 = .ok (.aload_n 0, 1) := dq_42 (fd_r fcX12_conIs (by decide +kernel))
theorem dX12_conIs_88 : decode cX12_conIs 88 = .ok (.getfield 63, 3) := dq_180 (a := 0) (b := 63) (fd_r fcX12_conIs (by decide +kernel)) rfl
theorem dX12_conIs_91 : decode cX12_conIs 91 = .ok (.aload_n 0, 1) := dq_42 (fd_r fcX12_conIs (by decide +kernel))
theorem dX12_conIs_92 : decode cX12_conIs 92 = .ok (.getfield 124, 3) := dq_180 (a := 0) (b := 124) (fd_r fcX12_conIs (by decide +kernel)) rfl
theorem dX12_conIs_95 : decode cX12_conIs 95 = .ok (.iaload, 1) := dq_46 (fd_r fcX12_conIs (by decide +kernel))
theorem dX12_conIs_96 : decode cX12_conIs 96 = .ok (.iadd, 1) := dq_96 (fd_r fcX12_conIs (by decide +kernel))
theorem dX12_conIs_97 : decode cX12_conIs 97 = .ok (.istore 4, 2) := dq_54 (a := 4) (fd_r fcX12_conIs (by decide +kernel))
theorem dX12_conIs_99 : decode cX12_conIs 99 = .ok (.aload_n 0, 1) := dq_42 (fd_r fcX12_conIs (by decide +kernel))
theorem dX12_conIs_100 : decode cX12_conIs 100 = .ok (.getfield 57, 3) := dq_180 (a := 0) (b := 57) (fd_r fcX12_conIs (by decide +kernel)) rfl
theorem dX12_conIs_103 : decode cX12_conIs 103 = .ok (.iconst 4, 1) := dq_7 (fd_r fcX12_conIs (by decide +kernel))
theorem dX12_conIs_104 : decode cX12_conIs 104 = .ok (.aload_n 0, 1) := dq_42 (fd_r fcX12_conIs (by decide +kernel))
theorem dX12_conIs_105 : decode cX12_conIs 105 = .ok (.getfield 124, 3) := dq_180 (a := 0) (b := 124) (fd_r fcX12_conIs (by decide +kernel)) rfl
theorem dX12_conIs_108 : decode cX12_conIs 108 = .ok (.imul, 1) := dq_104 (fd_r fcX12_conIs (by decide +kernel))
theorem dX12_conIs_109 : decode cX12_conIs 109 = .ok (.iload_n 1, 1) := dq_27 (fd_r fcX12_conIs (by decide +kernel))
theorem dX12_conIs_110 : decode cX12_conIs 110 = .ok (.iadd, 1) := dq_96 (fd_r fcX12_conIs (by decide +kernel))
theorem dX12_conIs_111 : decode cX12_conIs 111 = .ok (.iaload, 1) := dq_46 (fd_r fcX12_conIs (by decide +kernel))
theorem dX12_conIs_112 : decode cX12_conIs 112 = .ok (.istore 5, 2) := dq_54 (a := 5) (fd_r fcX12_conIs (by decide +kernel))
theorem dX12_conIs_114 : decode cX12_conIs 114 = .ok (.aload_n 0, 1) := dq_42 (fd_r fcX12_conIs (by decide +kernel))
theorem dX12_conIs_115 : decode cX12_conIs 115 = .ok (.getfield 118, 3) := dq_180 (a := 0) (b := 118) (fd_r fcX12_conIs (by decide +kernel)) rfl
theorem dX12_conIs_118 : decode cX12_conIs 118 = .ok (.iload 4, 2) := dq_21 (a := 4) (fd_r fcX12_conIs (by decide +kernel))
theorem dX12_conIs_120 : decode cX12_conIs 120 = .ok (.lload_n 2, 1) := dq_32 (fd_r fcX12_conIs (by decide +kernel))
theorem dX12_conIs_121 : decode cX12_conIs 121 = .ok (.lastore, 1) := dq_80 (fd_r fcX12_conIs (by decide +kernel))
theorem dX12_conIs_122 : decode cX12_conIs 122 = .ok (.aload_n 0, 1) := dq_42 (fd_r fcX12_conIs (by decide +kernel))
theorem dX12_conIs_123 : decode cX12_conIs 123 = .ok (.getfield 66, 3) := dq_180 (a := 0) (b := 66) (fd_r fcX12_conIs (by decide +kernel)) rfl
theorem dX12_conIs_126 : decode cX12_conIs 126 = .ok (.iload 4, 2) := dq_21 (a := 4) (fd_r fcX12_conIs (by decide +kernel))
theorem dX12_conIs_128 : decode cX12_conIs 128 = .ok (.iload_n 1, 1) := dq_27 (fd_r fcX12_conIs (by decide +kernel))
theorem dX12_conIs_129 : decode cX12_conIs 129 = .ok (.iastore, 1) := dq_79 (fd_r fcX12_conIs (by decide +kernel))
theorem dX12_conIs_130 : decode cX12_conIs 130 = .ok (.aload_n 0, 1) := dq_42 (fd_r fcX12_conIs (by decide +kernel))
theorem dX12_conIs_131 : decode cX12_conIs 131 = .ok (.getfield 69, 3) := dq_180 (a := 0) (b := 69) (fd_r fcX12_conIs (by decide +kernel)) rfl
theorem dX12_conIs_134 : decode cX12_conIs 134 = .ok (.iload 4, 2) := dq_21 (a := 4) (fd_r fcX12_conIs (by decide +kernel))
theorem dX12_conIs_136 : decode cX12_conIs 136 = .ok (.iconst 0, 1) := dq_3 (fd_r fcX12_conIs (by decide +kernel))
theorem dX12_conIs_137 : decode cX12_conIs 137 = .ok (.iastore, 1) := dq_79 (fd_r fcX12_conIs (by decide +kernel))
theorem dX12_conIs_138 : decode cX12_conIs 138 = .ok (.aload_n 0, 1) := dq_42 (fd_r fcX12_conIs (by decide +kernel))
theorem dX12_conIs_139 : decode cX12_conIs 139 = .ok (.getfield 75, 3) := dq_180 (a := 0) (b := 75) (fd_r fcX12_conIs (by decide +kernel)) rfl
theorem dX12_conIs_142 : decode cX12_conIs 142 = .ok (.iload 4, 2) := dq_21 (a := 4) (fd_r fcX12_conIs (by decide +kernel))
theorem dX12_conIs_144 : decode cX12_conIs 144 = .ok (.iload 5, 2) := dq_21 (a := 5) (fd_r fcX12_conIs (by decide +kernel))
theorem dX12_conIs_146 : decode cX12_conIs 146 = .ok (.iastore, 1) := dq_79 (fd_r fcX12_conIs (by decide +kernel))
theorem dX12_conIs_147 : decode cX12_conIs 147 = .ok (.aload_n 0, 1) := dq_42 (fd_r fcX12_conIs (by decide +kernel))
theorem dX12_conIs_148 : decode cX12_conIs 148 = .ok (.getfield 78, 3) := dq_180 (a := 0) (b := 78) (fd_r fcX12_conIs (by decide +kernel)) rfl
theorem dX12_conIs_151 : decode cX12_conIs 151 = .ok (.iload 4, 2) := dq_21 (a := 4) (fd_r fcX12_conIs (by decide +kernel))
theorem dX12_conIs_153 : decode cX12_conIs 153 = .ok (.iconst 1, 1) := dq_4 (fd_r fcX12_conIs (by decide +kernel))
theorem dX12_conIs_154 : decode cX12_conIs 154 = .ok (.iastore, 1) := dq_79 (fd_r fcX12_conIs (by decide +kernel))
theorem dX12_conIs_155 : decode cX12_conIs 155 = .ok (.aload_n 0, 1) := dq_42 (fd_r fcX12_conIs (by decide +kernel))
theorem dX12_conIs_156 : decode cX12_conIs 156 = .ok (.invokevirtual 331, 3) := dq_182 (a := 1) (b := 75) (fd_r fcX12_conIs (by decide +kernel)) rfl
theorem dX12_conIs_159 : decode cX12_conIs 159 = .ok (.aload_n 0, 1) := dq_42 (fd_r fcX12_conIs (by decide +kernel))
theorem dX12_conIs_160 : decode cX12_conIs 160 = .ok (.getfield 36, 3) := dq_180 (a := 0) (b := 36) (fd_r fcX12_conIs (by decide +kernel)) rfl
theorem dX12_conIs_163 : decode cX12_conIs 163 = .ok (.ifCond .ne 140, 3) := dq_154 (a := 0) (b := 140) (fd_r fcX12_conIs (by decide +kernel)) rfl
theorem dX12_conIs_166 : decode cX12_conIs 166 = .ok (.aload_n 0, 1) := dq_42 (fd_r fcX12_conIs (by decide +kernel))
theorem dX12_conIs_167 : decode cX12_conIs 167 = .ok (.invokevirtual 389, 3) := dq_182 (a := 1) (b := 133) (fd_r fcX12_conIs (by decide +kernel)) rfl
theorem dX12_conIs_170 : decode cX12_conIs 170 = .ok (.ifCond .eq 133, 3) := dq_153 (a := 0) (b := 133) (fd_r fcX12_conIs (by decide +kernel)) rfl
theorem dX12_conIs_173 : decode cX12_conIs 173 = .ok (.aload_n 0, 1) := dq_42 (fd_r fcX12_conIs (by decide +kernel))
theorem dX12_conIs_174 : decode cX12_conIs 174 = .ok (.getfield 69, 3) := dq_180 (a := 0) (b := 69) (fd_r fcX12_conIs (by decide +kernel)) rfl
theorem dX12_conIs_177 : decode cX12_conIs 177 = .ok (.iload 4, 2) := dq_21 (a := 4) (fd_r fcX12_conIs (by decide +kernel))
theorem dX12_conIs_179 : decode cX12_conIs 179 = .ok (.iaload, 1) := dq_46 (fd_r fcX12_conIs (by decide +kernel))
theorem dX12_conIs_180 : decode cX12_conIs 180 = .ok (.iconst 2, 1) := dq_5 (fd_r fcX12_conIs (by decide +kernel))
theorem dX12_conIs_181 : decode cX12_conIs 181 = .ok (.if_icmp .ne 13, 3) := dq_160 (a := 0) (b := 13) (fd_r fcX12_conIs (by decide +kernel)) rfl
theorem dX12_conIs_184 : decode cX12_conIs 184 = .ok (.aload_n 0, 1) := dq_42 (fd_r fcX12_conIs (by decide +kernel))
theorem dX12_conIs_185 : decode cX12_conIs 185 = .ok (.bipush 6, 2) := dq_16 (a := 6) (fd_r fcX12_conIs (by decide +kernel)) rfl
theorem dX12_conIs_187 : decode cX12_conIs 187 = .ok (.aload_n 0, 1) := dq_42 (fd_r fcX12_conIs (by decide +kernel))
theorem dX12_conIs_188 : decode cX12_conIs 188 = .ok (.getfield 23, 3) := dq_180 (a := 0) (b := 23) (fd_r fcX12_conIs (by decide +kernel)) rfl
theorem dX12_conIs_191 : decode cX12_conIs 191 = .ok (.invokevirtual 320, 3) := dq_182 (a := 1) (b := 64) (fd_r fcX12_conIs (by decide +kernel)) rfl
theorem dX12_conIs_194 : decode cX12_conIs 194 = .ok (.aload_n 0, 1) := dq_42 (fd_r fcX12_conIs (by decide +kernel))
theorem dX12_conIs_195 : decode cX12_conIs 195 = .ok (.iload_n 1, 1) := dq_27 (fd_r fcX12_conIs (by decide +kernel))
theorem dX12_conIs_196 : decode cX12_conIs 196 = .ok (.invokevirtual 393, 3) := dq_182 (a := 1) (b := 137) (fd_r fcX12_conIs (by decide +kernel)) rfl
theorem dX12_conIs_199 : decode cX12_conIs 199 = .ok (.istore 6, 2) := dq_54 (a := 6) (fd_r fcX12_conIs (by decide +kernel))
theorem dX12_conIs_201 : decode cX12_conIs 201 = .ok (.aload_n 0, 1) := dq_42 (fd_r fcX12_conIs (by decide +kernel))
theorem dX12_conIs_202 : decode cX12_conIs 202 = .ok (.getfield 36, 3) := dq_180 (a := 0) (b := 36) (fd_r fcX12_conIs (by decide +kernel)) rfl
theorem dX12_conIs_205 : decode cX12_conIs 205 = .ok (.ifCond .le 4, 3) := dq_158 (a := 0) (b := 4) (fd_r fcX12_conIs (by decide +kernel)) rfl
theorem dX12_conIs_208 : decode cX12_conIs 208 = .ok (.return_, 1) := dq_177 (fd_r fcX12_conIs (by decide +kernel))
theorem dX12_conIs_209 : decode cX12_conIs 209 = .ok (.aload_n 0, 1) := dq_42 (fd_r fcX12_conIs (by decide +kernel))
theorem dX12_conIs_210 : decode cX12_conIs 210 = .ok (.getfield 72, 3) := dq_180 (a := 0) (b := 72) (fd_r fcX12_conIs (by decide +kernel)) rfl
theorem dX12_conIs_213 : decode cX12_conIs 213 = .ok (.iconst 2, 1) := dq_5 (fd_r fcX12_conIs (by decide +kernel))
theorem dX12_conIs_214 : decode cX12_conIs 214 = .ok (.iload 4, 2) := dq_21 (a := 4) (fd_r fcX12_conIs (by decide +kernel))
theorem dX12_conIs_216 : decode cX12_conIs 216 = .ok (.imul, 1) := dq_104 (fd_r fcX12_conIs (by decide +kernel))
theorem dX12_conIs_217 : decode cX12_conIs 217 = .ok (.aload_n 0, 1) := dq_42 (fd_r fcX12_conIs (by decide +kernel))
theorem dX12_conIs_218 : decode cX12_conIs 218 = .ok (.getfield 69, 3) := dq_180 (a := 0) (b := 69) (fd_r fcX12_conIs (by decide +kernel)) rfl
theorem dX12_conIs_221 : decode cX12_conIs 221 = .ok (.iload 4, 2) := dq_21 (a := 4) (fd_r fcX12_conIs (by decide +kernel))
theorem dX12_conIs_223 : decode cX12_conIs 223 = .ok (.iaload, 1) := dq_46 (fd_r fcX12_conIs (by decide +kernel))
theorem dX12_conIs_224 : decode cX12_conIs 224 = .ok (.iadd, 1) := dq_96 (fd_r fcX12_conIs (by decide +kernel))
theorem dX12_conIs_225 : decode cX12_conIs 225 = .ok (.iload 6, 2) := dq_21 (a := 6) (fd_r fcX12_conIs (by decide +kernel))
theorem dX12_conIs_227 : decode cX12_conIs 227 = .ok (.iastore, 1) := dq_79 (fd_r fcX12_conIs (by decide +kernel))
theorem dX12_conIs_228 : decode cX12_conIs 228 = .ok (.aload_n 0, 1) := dq_42 (fd_r fcX12_conIs (by decide +kernel))
theorem dX12_conIs_229 : decode cX12_conIs 229 = .ok (.getfield 69, 3) := dq_180 (a := 0) (b := 69) (fd_r fcX12_conIs (by decide +kernel)) rfl
theorem dX12_conIs_232 : decode cX12_conIs 232 = .ok (.iload 4, 2) := dq_21 (a := 4) (fd_r fcX12_conIs (by decide +kernel))
theorem dX12_conIs_234 : decode cX12_conIs 234 = .ok (.dup2, 1) := dq_92 (fd_r fcX12_conIs (by decide +kernel))
theorem dX12_conIs_235 : decode cX12_conIs 235 = .ok (.iaload, 1) := dq_46 (fd_r fcX12_conIs (by decide +kernel))
theorem dX12_conIs_236 : decode cX12_conIs 236 = .ok (.iconst 1, 1) := dq_4 (fd_r fcX12_conIs (by decide +kernel))
theorem dX12_conIs_237 : decode cX12_conIs 237 = .ok (.iadd, 1) := dq_96 (fd_r fcX12_conIs (by decide +kernel))
theorem dX12_conIs_238 : decode cX12_conIs 238 = .ok (.iastore, 1) := dq_79 (fd_r fcX12_conIs (by decide +kernel))
theorem dX12_conIs_239 : decode cX12_conIs 239 = .ok (.aload_n 0, 1) := dq_42 (fd_r fcX12_conIs (by decide +kernel))
theorem dX12_conIs_240 : decode cX12_conIs 240 = .ok (.getfield 78, 3) := dq_180 (a := 0) (b := 78) (fd_r fcX12_conIs (by decide +kernel)) rfl
theorem dX12_conIs_243 : decode cX12_conIs 243 = .ok (.iload 4, 2) := dq_21 (a := 4) (fd_r fcX12_conIs (by decide +kernel))
theorem dX12_conIs_245 : decode cX12_conIs 245 = .ok (.dup2, 1) := dq_92 (fd_r fcX12_conIs (by decide +kernel))
theorem dX12_conIs_246 : decode cX12_conIs 246 = .ok (.iaload, 1) := dq_46 (fd_r fcX12_conIs (by decide +kernel))
theorem dX12_conIs_247 : decode cX12_conIs 247 = .ok (.aload_n 0, 1) := dq_42 (fd_r fcX12_conIs (by decide +kernel))
theorem dX12_conIs_248 : decode cX12_conIs 248 = .ok (.aload_n 0, 1) := dq_42 (fd_r fcX12_conIs (by decide +kernel))
theorem dX12_conIs_249 : decode cX12_conIs 249 = .ok (.getfield 124, 3) := dq_180 (a := 0) (b := 124) (fd_r fcX12_conIs (by decide +kernel)) rfl
theorem dX12_conIs_252 : decode cX12_conIs 252 = .ok (.iload 6, 2) := dq_21 (a := 6) (fd_r fcX12_conIs (by decide +kernel))
theorem dX12_conIs_254 : decode cX12_conIs 254 = .ok (.invokevirtual 396, 3) := dq_182 (a := 1) (b := 140) (fd_r fcX12_conIs (by decide +kernel)) rfl
theorem dX12_conIs_257 : decode cX12_conIs 257 = .ok (.imul, 1) := dq_104 (fd_r fcX12_conIs (by decide +kernel))
theorem dX12_conIs_258 : decode cX12_conIs 258 = .ok (.iastore, 1) := dq_79 (fd_r fcX12_conIs (by decide +kernel))
theorem dX12_conIs_259 : decode cX12_conIs 259 = .ok (.iload 5, 2) := dq_21 (a := 5) (fd_r fcX12_conIs (by decide +kernel))
theorem dX12_conIs_261 : decode cX12_conIs 261 = .ok (.aload_n 0, 1) := dq_42 (fd_r fcX12_conIs (by decide +kernel))
theorem dX12_conIs_262 : decode cX12_conIs 262 = .ok (.getfield 78, 3) := dq_180 (a := 0) (b := 78) (fd_r fcX12_conIs (by decide +kernel)) rfl
theorem dX12_conIs_265 : decode cX12_conIs 265 = .ok (.iload 4, 2) := dq_21 (a := 4) (fd_r fcX12_conIs (by decide +kernel))
theorem dX12_conIs_267 : decode cX12_conIs 267 = .ok (.iaload, 1) := dq_46 (fd_r fcX12_conIs (by decide +kernel))
theorem dX12_conIs_268 : decode cX12_conIs 268 = .ok (.iadd, 1) := dq_96 (fd_r fcX12_conIs (by decide +kernel))
theorem dX12_conIs_269 : decode cX12_conIs 269 = .ok (.sipush 2000, 3) := dq_17 (a := 7) (b := 208) (fd_r fcX12_conIs (by decide +kernel)) rfl
theorem dX12_conIs_272 : decode cX12_conIs 272 = .ok (.if_icmp .le 12, 3) := dq_164 (a := 0) (b := 12) (fd_r fcX12_conIs (by decide +kernel)) rfl
theorem dX12_conIs_275 : decode cX12_conIs 275 = .ok (.aload_n 0, 1) := dq_42 (fd_r fcX12_conIs (by decide +kernel))
theorem dX12_conIs_276 : decode cX12_conIs 276 = .ok (.iconst 4, 1) := dq_7 (fd_r fcX12_conIs (by decide +kernel))
theorem dX12_conIs_277 : decode cX12_conIs 277 = .ok (.aload_n 0, 1) := dq_42 (fd_r fcX12_conIs (by decide +kernel))
theorem dX12_conIs_278 : decode cX12_conIs 278 = .ok (.getfield 23, 3) := dq_180 (a := 0) (b := 23) (fd_r fcX12_conIs (by decide +kernel)) rfl
theorem dX12_conIs_281 : decode cX12_conIs 281 = .ok (.invokevirtual 320, 3) := dq_182 (a := 1) (b := 64) (fd_r fcX12_conIs (by decide +kernel)) rfl
theorem dX12_conIs_284 : decode cX12_conIs 284 = .ok (.aload_n 0, 1) := dq_42 (fd_r fcX12_conIs (by decide +kernel))
theorem dX12_conIs_285 : decode cX12_conIs 285 = .ok (.getfield 36, 3) := dq_180 (a := 0) (b := 36) (fd_r fcX12_conIs (by decide +kernel)) rfl
theorem dX12_conIs_288 : decode cX12_conIs 288 = .ok (.ifCond .le 4, 3) := dq_158 (a := 0) (b := 4) (fd_r fcX12_conIs (by decide +kernel)) rfl
theorem dX12_conIs_291 : decode cX12_conIs 291 = .ok (.return_, 1) := dq_177 (fd_r fcX12_conIs (by decide +kernel))
theorem dX12_conIs_292 : decode cX12_conIs 292 = .ok (.aload_n 0, 1) := dq_42 (fd_r fcX12_conIs (by decide +kernel))
theorem dX12_conIs_293 : decode cX12_conIs 293 = .ok (.invokevirtual 337, 3) := dq_182 (a := 1) (b := 81) (fd_r fcX12_conIs (by decide +kernel)) rfl
theorem dX12_conIs_296 : decode cX12_conIs 296 = .ok (.aload_n 0, 1) := dq_42 (fd_r fcX12_conIs (by decide +kernel))
theorem dX12_conIs_297 : decode cX12_conIs 297 = .ok (.invokevirtual 331, 3) := dq_182 (a := 1) (b := 75) (fd_r fcX12_conIs (by decide +kernel)) rfl
theorem dX12_conIs_300 : decode cX12_conIs 300 = .ok (.goto (-141), 3) := dq_167 (a := 255) (b := 115) (fd_r fcX12_conIs (by decide +kernel)) rfl
theorem dX12_conIs_303 : decode cX12_conIs 303 = .ok (.aload_n 0, 1) := dq_42 (fd_r fcX12_conIs (by decide +kernel))
theorem dX12_conIs_304 : decode cX12_conIs 304 = .ok (.getfield 36, 3) := dq_180 (a := 0) (b := 36) (fd_r fcX12_conIs (by decide +kernel)) rfl
theorem dX12_conIs_307 : decode cX12_conIs 307 = .ok (.ifCond .le 4, 3) := dq_158 (a := 0) (b := 4) (fd_r fcX12_conIs (by decide +kernel)) rfl
theorem dX12_conIs_310 : decode cX12_conIs 310 = .ok (.return_, 1) := dq_177 (fd_r fcX12_conIs (by decide +kernel))
theorem dX12_conIs_311 : decode cX12_conIs 311 = .ok (.aload_n 0, 1) := dq_42 (fd_r fcX12_conIs (by decide +kernel))
theorem dX12_conIs_312 : decode cX12_conIs 312 = .ok (.getfield 57, 3) := dq_180 (a := 0) (b := 57) (fd_r fcX12_conIs (by decide +kernel)) rfl
theorem dX12_conIs_315 : decode cX12_conIs 315 = .ok (.iconst 4, 1) := dq_7 (fd_r fcX12_conIs (by decide +kernel))
theorem dX12_conIs_316 : decode cX12_conIs 316 = .ok (.aload_n 0, 1) := dq_42 (fd_r fcX12_conIs (by decide +kernel))
theorem dX12_conIs_317 : decode cX12_conIs 317 = .ok (.getfield 124, 3) := dq_180 (a := 0) (b := 124) (fd_r fcX12_conIs (by decide +kernel)) rfl
theorem dX12_conIs_320 : decode cX12_conIs 320 = .ok (.imul, 1) := dq_104 (fd_r fcX12_conIs (by decide +kernel))
theorem dX12_conIs_321 : decode cX12_conIs 321 = .ok (.iload_n 1, 1) := dq_27 (fd_r fcX12_conIs (by decide +kernel))
theorem dX12_conIs_322 : decode cX12_conIs 322 = .ok (.iadd, 1) := dq_96 (fd_r fcX12_conIs (by decide +kernel))
theorem dX12_conIs_323 : decode cX12_conIs 323 = .ok (.dup2, 1) := dq_92 (fd_r fcX12_conIs (by decide +kernel))
theorem dX12_conIs_324 : decode cX12_conIs 324 = .ok (.iaload, 1) := dq_46 (fd_r fcX12_conIs (by decide +kernel))
theorem dX12_conIs_325 : decode cX12_conIs 325 = .ok (.aload_n 0, 1) := dq_42 (fd_r fcX12_conIs (by decide +kernel))
theorem dX12_conIs_326 : decode cX12_conIs 326 = .ok (.getfield 78, 3) := dq_180 (a := 0) (b := 78) (fd_r fcX12_conIs (by decide +kernel)) rfl
theorem dX12_conIs_329 : decode cX12_conIs 329 = .ok (.iload 4, 2) := dq_21 (a := 4) (fd_r fcX12_conIs (by decide +kernel))
theorem dX12_conIs_331 : decode cX12_conIs 331 = .ok (.iaload, 1) := dq_46 (fd_r fcX12_conIs (by decide +kernel))
theorem dX12_conIs_332 : decode cX12_conIs 332 = .ok (.iadd, 1) := dq_96 (fd_r fcX12_conIs (by decide +kernel))
theorem dX12_conIs_333 : decode cX12_conIs 333 = .ok (.iastore, 1) := dq_79 (fd_r fcX12_conIs (by decide +kernel))
theorem dX12_conIs_334 : decode cX12_conIs 334 = .ok (.aload_n 0, 1) := dq_42 (fd_r fcX12_conIs (by decide +kernel))
theorem dX12_conIs_335 : decode cX12_conIs 335 = .ok (.getfield 60, 3) := dq_180 (a := 0) (b := 60) (fd_r fcX12_conIs (by decide +kernel)) rfl
theorem dX12_conIs_338 : decode cX12_conIs 338 = .ok (.iconst 4, 1) := dq_7 (fd_r fcX12_conIs (by decide +kernel))
theorem dX12_conIs_339 : decode cX12_conIs 339 = .ok (.aload_n 0, 1) := dq_42 (fd_r fcX12_conIs (by decide +kernel))
theorem dX12_conIs_340 : decode cX12_conIs 340 = .ok (.getfield 124, 3) := dq_180 (a := 0) (b := 124) (fd_r fcX12_conIs (by decide +kernel)) rfl
theorem dX12_conIs_343 : decode cX12_conIs 343 = .ok (.imul, 1) := dq_104 (fd_r fcX12_conIs (by decide +kernel))
theorem dX12_conIs_344 : decode cX12_conIs 344 = .ok (.iload_n 1, 1) := dq_27 (fd_r fcX12_conIs (by decide +kernel))
theorem dX12_conIs_345 : decode cX12_conIs 345 = .ok (.iadd, 1) := dq_96 (fd_r fcX12_conIs (by decide +kernel))
theorem dX12_conIs_346 : decode cX12_conIs 346 = .ok (.dup2, 1) := dq_92 (fd_r fcX12_conIs (by decide +kernel))
theorem dX12_conIs_347 : decode cX12_conIs 347 = .ok (.iaload, 1) := dq_46 (fd_r fcX12_conIs (by decide +kernel))
theorem dX12_conIs_348 : decode cX12_conIs 348 = .ok (.iconst 1, 1) := dq_4 (fd_r fcX12_conIs (by decide +kernel))
theorem dX12_conIs_349 : decode cX12_conIs 349 = .ok (.iadd, 1) := dq_96 (fd_r fcX12_conIs (by decide +kernel))
theorem dX12_conIs_350 : decode cX12_conIs 350 = .ok (.iastore, 1) := dq_79 (fd_r fcX12_conIs (by decide +kernel))
theorem dX12_conIs_351 : decode cX12_conIs 351 = .ok (.aload_n 0, 1) := dq_42 (fd_r fcX12_conIs (by decide +kernel))
theorem dX12_conIs_352 : decode cX12_conIs 352 = .ok (.getfield 63, 3) := dq_180 (a := 0) (b := 63) (fd_r fcX12_conIs (by decide +kernel)) rfl
theorem dX12_conIs_355 : decode cX12_conIs 355 = .ok (.aload_n 0, 1) := dq_42 (fd_r fcX12_conIs (by decide +kernel))
theorem dX12_conIs_356 : decode cX12_conIs 356 = .ok (.getfield 124, 3) := dq_180 (a := 0) (b := 124) (fd_r fcX12_conIs (by decide +kernel)) rfl
theorem dX12_conIs_359 : decode cX12_conIs 359 = .ok (.dup2, 1) := dq_92 (fd_r fcX12_conIs (by decide +kernel))
theorem dX12_conIs_360 : decode cX12_conIs 360 = .ok (.iaload, 1) := dq_46 (fd_r fcX12_conIs (by decide +kernel))
theorem dX12_conIs_361 : decode cX12_conIs 361 = .ok (.iconst 1, 1) := dq_4 (fd_r fcX12_conIs (by decide +kernel))
theorem dX12_conIs_362 : decode cX12_conIs 362 = .ok (.iadd, 1) := dq_96 (fd_r fcX12_conIs (by decide +kernel))
theorem dX12_conIs_363 : decode cX12_conIs 363 = .ok (.iastore, 1) := dq_79 (fd_r fcX12_conIs (by decide +kernel))
theorem dX12_conIs_364 : decode cX12_conIs 364 = .ok (.return_, 1) := dq_177 (fd_r fcX12_conIs (by decide +kernel))
theorem dX12_matchIs_0 : decode cX12_matchIs 0 = .ok (.aload_n 0, 1) := dq_42 (fd_r fcX12_matchIs (by decide +kernel))
theorem dX12_matchIs_1 : decode cX12_matchIs 1 = .ok (.aload_n 0, 1) := dq_42 (fd_r fcX12_matchIs (by decide +kernel))
theorem dX12_matchIs_2 : decode cX12_matchIs 2 = .ok (.getfield 127, 3) := dq_180 (a := 0) (b := 127) (fd_r fcX12_matchIs (by decide +kernel)) rfl
theorem dX12_matchIs_5 : decode cX12_matchIs 5 = .ok (.invokevirtual 378, 3) := dq_182 (a := 1) (b := 122) (fd_r fcX12_matchIs (by decide +kernel)) rfl
theorem dX12_matchIs_8 : decode cX12_matchIs 8 = .ok (.ifCond .ne 4, 3) := dq_154 (a := 0) (b := 4) (fd_r fcX12_matchIs (by decide +kernel)) rfl
theorem dX12_matchIs_11 : decode cX12_matchIs 11 = .ok (.return_, 1) := dq_177 (fd_r fcX12_matchIs (by decide +kernel))
theorem dX12_matchIs_12 : decode cX12_matchIs 12 = .ok (.aload_n 0, 1) := dq_42 (fd_r fcX12_matchIs (by decide +kernel))
theorem dX12_matchIs_13 : decode cX12_matchIs 13 = .ok (.iconst 1, 1) := dq_4 (fd_r fcX12_matchIs (by decide +kernel))
theorem dX12_matchIs_14 : decode cX12_matchIs 14 = .ok (.putfield 127, 3) := dq_181 (a := 0) (b := 127) (fd_r fcX12_matchIs (by decide +kernel)) rfl
theorem dX12_matchIs_17 : decode cX12_matchIs 17 = .ok (.iconst 1, 1) := dq_4 (fd_r fcX12_matchIs (by decide +kernel))
end
section
theorem dX12_matchIs_18 : decode cX12_matchIs 18 = .ok (.istore_n 1, 1) := dq_60 (fd_r fcX12_matchIs (by decide +kernel))
theorem dX12_matchIs_19 : decode cX12_matchIs 19 = .ok (.aload_n 0, 1) := dq_42 (fd_r fcX12_matchIs (by decide +kernel))
theorem dX12_matchIs_20 : decode cX12_matchIs 20 = .ok (.invokevirtual 331, 3) := dq_182 (a := 1) (b := 75) (fd_r fcX12_matchIs (by decide +kernel)) rfl
theorem dX12_matchIs_23 : decode cX12_matchIs 23 = .ok (.aload_n 0, 1) := dq_42 (fd_r fcX12_matchIs (by decide +kernel))
theorem dX12_matchIs_24 : decode cX12_matchIs 24 = .ok (.getfield 36, 3) := dq_180 (a := 0) (b := 36) (fd_r fcX12_matchIs (by decide +kernel)) rfl
theorem dX12_matchIs_27 : decode cX12_matchIs 27 = .ok (.ifCond .ne 19, 3) := dq_154 (a := 0) (b := 19) (fd_r fcX12_matchIs (by decide +kernel)) rfl
theorem dX12_matchIs_30 : decode cX12_matchIs 30 = .ok (.aload_n 0, 1) := dq_42 (fd_r fcX12_matchIs (by decide +kernel))
theorem dX12_matchIs_31 : decode cX12_matchIs 31 = .ok (.invokevirtual 389, 3) := dq_182 (a := 1) (b := 133) (fd_r fcX12_matchIs (by decide +kernel)) rfl
theorem dX12_matchIs_34 : decode cX12_matchIs 34 = .ok (.ifCond .ne 12, 3) := dq_154 (a := 0) (b := 12) (fd_r fcX12_matchIs (by decide +kernel)) rfl
theorem dX12_matchIs_37 : decode cX12_matchIs 37 = .ok (.aload_n 0, 1) := dq_42 (fd_r fcX12_matchIs (by decide +kernel))
theorem dX12_matchIs_38 : decode cX12_matchIs 38 = .ok (.iconst 1, 1) := dq_4 (fd_r fcX12_matchIs (by decide +kernel))
theorem dX12_matchIs_39 : decode cX12_matchIs 39 = .ok (.aload_n 0, 1) := dq_42 (fd_r fcX12_matchIs (by decide +kernel))
theorem dX12_matchIs_40 : decode cX12_matchIs 40 = .ok (.getfield 23, 3) := dq_180 (a := 0) (b := 23) (fd_r fcX12_matchIs (by decide +kernel)) rfl
theorem dX12_matchIs_43 : decode cX12_matchIs 43 = .ok (.invokevirtual 320, 3) := dq_182 (a := 1) (b := 64) (fd_r fcX12_matchIs (by decide +kernel)) rfl
theorem dX12_matchIs_46 : decode cX12_matchIs 46 = .ok (.aload_n 0, 1) := dq_42 (fd_r fcX12_matchIs (by decide +kernel))
theorem dX12_matchIs_47 : decode cX12_matchIs 47 = .ok (.getfield 36, 3) := dq_180 (a := 0) (b := 36) (fd_r fcX12_matchIs (by decide +kernel)) rfl
theorem dX12_matchIs_50 : decode cX12_matchIs 50 = .ok (.ifCond .ne 129, 3) := dq_154 (a := 0) (b := 129) (fd_r fcX12_matchIs (by decide +kernel)) rfl
theorem dX12_matchIs_53 : decode cX12_matchIs 53 = .ok (.aload_n 0, 1) := dq_42 (fd_r fcX12_matchIs (by decide +kernel))
theorem dX12_matchIs_54 : decode cX12_matchIs 54 = .ok (.invokevirtual 389, 3) := dq_182 (a := 1) (b := 133) (fd_r fcX12_matchIs (by decide +kernel)) rfl
theorem dX12_matchIs_57 : decode cX12_matchIs 57 = .ok (.ifCond .eq 122, 3) := dq_153 (a := 0) (b := 122) (fd_r fcX12_matchIs (by decide +kernel)) rfl
theorem dX12_matchIs_60 : decode cX12_matchIs 60 = .ok (.aload_n 0, 1) := dq_42 (fd_r fcX12_matchIs (by decide +kernel))
theorem dX12_matchIs_61 : decode cX12_matchIs 61 = .ok (.getfield 81, 3) := dq_180 (a := 0) (b := 81) (fd_r fcX12_matchIs (by decide +kernel)) rfl
theorem dX12_matchIs_64 : decode cX12_matchIs 64 = .ok (.aload_n 0, 1) := dq_42 (fd_r fcX12_matchIs (by decide +kernel))
theorem dX12_matchIs_65 : decode cX12_matchIs 65 = .ok (.getfield 124, 3) := dq_180 (a := 0) (b := 124) (fd_r fcX12_matchIs (by decide +kernel)) rfl
theorem dX12_matchIs_68 : decode cX12_matchIs 68 = .ok (.iaload, 1) := dq_46 (fd_r fcX12_matchIs (by decide +kernel))
theorem dX12_matchIs_69 : decode cX12_matchIs 69 = .ok (.iconst 4, 1) := dq_7 (fd_r fcX12_matchIs (by decide +kernel))
theorem dX12_matchIs_70 : decode cX12_matchIs 70 = .ok (.if_icmp .ne 13, 3) := dq_160 (a := 0) (b := 13) (fd_r fcX12_matchIs (by decide +kernel)) rfl
theorem dX12_matchIs_73 : decode cX12_matchIs 73 = .ok (.aload_n 0, 1) := dq_42 (fd_r fcX12_matchIs (by decide +kernel))
theorem dX12_matchIs_74 : decode cX12_matchIs 74 = .ok (.bipush 6, 2) := dq_16 (a := 6) (fd_r fcX12_matchIs (by decide +kernel)) rfl
theorem dX12_matchIs_76 : decode cX12_matchIs 76 = .ok (.aload_n 0, 1) := dq_42 (fd_r fcX12_matchIs (by decide +kernel))
theorem dX12_matchIs_77 : decode cX12_matchIs 77 = .ok (.getfield 23, 3) := dq_180 (a := 0) (b := 23) (fd_r fcX12_matchIs (by decide +kernel)) rfl
theorem dX12_matchIs_80 : decode cX12_matchIs 80 = .ok (.invokevirtual 320, 3) := dq_182 (a := 1) (b := 64) (fd_r fcX12_matchIs (by decide +kernel)) rfl
theorem dX12_matchIs_83 : decode cX12_matchIs 83 = .ok (.aload_n 0, 1) := dq_42 (fd_r fcX12_matchIs (by decide +kernel))
theorem dX12_matchIs_84 : decode cX12_matchIs 84 = .ok (.iconst 4, 1) := dq_7 (fd_r fcX12_matchIs (by decide +kernel))
theorem dX12_matchIs_85 : decode cX12_matchIs 85 = .ok (.invokevirtual 393, 3) := dq_182 (a := 1) (b := 137) (fd_r fcX12_matchIs (by decide +kernel)) rfl
theorem dX12_matchIs_88 : decode cX12_matchIs 88 = .ok (.istore_n 2, 1) := dq_61 (fd_r fcX12_matchIs (by decide +kernel))
theorem dX12_matchIs_89 : decode cX12_matchIs 89 = .ok (.aload_n 0, 1) := dq_42 (fd_r fcX12_matchIs (by decide +kernel))
theorem dX12_matchIs_90 : decode cX12_matchIs 90 = .ok (.getfield 36, 3) := dq_180 (a := 0) (b := 36) (fd_r fcX12_matchIs (by decide +kernel)) rfl
theorem dX12_matchIs_93 : decode cX12_matchIs 93 = .ok (.ifCond .le 4, 3) := dq_158 (a := 0) (b := 4) (fd_r fcX12_matchIs (by decide +kernel)) rfl
theorem dX12_matchIs_96 : decode cX12_matchIs 96 = .ok (.return_, 1) := dq_177 (fd_r fcX12_matchIs (by decide +kernel))
theorem dX12_matchIs_97 : decode cX12_matchIs 97 = .ok (.aload_n 0, 1) := dq_42 (fd_r fcX12_matchIs (by decide +kernel))
theorem dX12_matchIs_98 : decode cX12_matchIs 98 = .ok (.getfield 84, 3) := dq_180 (a := 0) (b := 84) (fd_r fcX12_matchIs (by decide +kernel)) rfl
theorem dX12_matchIs_101 : decode cX12_matchIs 101 = .ok (.iconst 4, 1) := dq_7 (fd_r fcX12_matchIs (by decide +kernel))
theorem dX12_matchIs_102 : decode cX12_matchIs 102 = .ok (.aload_n 0, 1) := dq_42 (fd_r fcX12_matchIs (by decide +kernel))
theorem dX12_matchIs_103 : decode cX12_matchIs 103 = .ok (.getfield 124, 3) := dq_180 (a := 0) (b := 124) (fd_r fcX12_matchIs (by decide +kernel)) rfl
theorem dX12_matchIs_106 : decode cX12_matchIs 106 = .ok (.imul, 1) := dq_104 (fd_r fcX12_matchIs (by decide +kernel))
theorem dX12_matchIs_107 : decode cX12_matchIs 107 = .ok (.aload_n 0, 1) := dq_42 (fd_r fcX12_matchIs (by decide +kernel))
theorem dX12_matchIs_108 : decode cX12_matchIs 108 = .ok (.getfield 81, 3) := dq_180 (a := 0) (b := 81) (fd_r fcX12_matchIs (by decide +kernel)) rfl
theorem dX12_matchIs_111 : decode cX12_matchIs 111 = .ok (.aload_n 0, 1) := dq_42 (fd_r fcX12_matchIs (by decide +kernel))
theorem dX12_matchIs_112 : decode cX12_matchIs 112 = .ok (.getfield 124, 3) := dq_180 (a := 0) (b := 124) (fd_r fcX12_matchIs (by decide +kernel)) rfl
theorem dX12_matchIs_115 : decode cX12_matchIs 115 = .ok (.iaload, 1) := dq_46 (fd_r fcX12_matchIs (by decide +kernel))
theorem dX12_matchIs_116 : decode cX12_matchIs 116 = .ok (.iadd, 1) := dq_96 (fd_r fcX12_matchIs (by decide +kernel))
theorem dX12_matchIs_117 : decode cX12_matchIs 117 = .ok (.iload_n 2, 1) := dq_28 (fd_r fcX12_matchIs (by decide +kernel))
theorem dX12_matchIs_118 : decode cX12_matchIs 118 = .ok (.iastore, 1) := dq_79 (fd_r fcX12_matchIs (by decide +kernel))
theorem dX12_matchIs_119 : decode cX12_matchIs 119 = .ok (.aload_n 0, 1) := dq_42 (fd_r fcX12_matchIs (by decide +kernel))
theorem dX12_matchIs_120 : decode cX12_matchIs 120 = .ok (.getfield 81, 3) := dq_180 (a := 0) (b := 81) (fd_r fcX12_matchIs (by decide +kernel)) rfl
theorem dX12_matchIs_123 : decode cX12_matchIs 123 = .ok (.aload_n 0, 1) := dq_42 (fd_r fcX12_matchIs (by decide +kernel))
theorem dX12_matchIs_124 : decode cX12_matchIs 124 = .ok (.getfield 124, 3) := dq_180 (a := 0) (b := 124) (fd_r fcX12_matchIs (by decide +kernel)) rfl
theorem dX12_matchIs_127 : decode cX12_matchIs 127 = .ok (.dup2, 1) := dq_92 (fd_r fcX12_matchIs (by decide +kernel))
theorem dX12_matchIs_128 : decode cX12_matchIs 128 = .ok (.iaload, 1) := dq_46 (fd_r fcX12_matchIs (by decide +kernel))
theorem dX12_matchIs_129 : decode cX12_matchIs 129 = .ok (.iconst 1, 1) := dq_4 (fd_r fcX12_matchIs (by decide +kernel))
theorem dX12_matchIs_130 : decode cX12_matchIs 130 = .ok (.iadd, 1) := dq_96 (fd_r fcX12_matchIs (by decide +kernel))
theorem dX12_matchIs_131 : decode cX12_matchIs 131 = .ok (.iastore, 1) := dq_79 (fd_r fcX12_matchIs (by decide +kernel))
theorem dX12_matchIs_132 : decode cX12_matchIs 132 = .ok (.iload_n 1, 1) := dq_27 (fd_r fcX12_matchIs (by decide +kernel))
theorem dX12_matchIs_133 : decode cX12_matchIs 133 = .ok (.aload_n 0, 1) := dq_42 (fd_r fcX12_matchIs (by decide +kernel))
theorem dX12_matchIs_134 : decode cX12_matchIs 134 = .ok (.aload_n 0, 1) := dq_42 (fd_r fcX12_matchIs (by decide +kernel))
theorem dX12_matchIs_135 : decode cX12_matchIs 135 = .ok (.getfield 124, 3) := dq_180 (a := 0) (b := 124) (fd_r fcX12_matchIs (by decide +kernel)) rfl
theorem dX12_matchIs_138 : decode cX12_matchIs 138 = .ok (.iload_n 2, 1) := dq_28 (fd_r fcX12_matchIs (by decide +kernel))
theorem dX12_matchIs_139 : decode cX12_matchIs 139 = .ok (.invokevirtual 396, 3) := dq_182 (a := 1) (b := 140) (fd_r fcX12_matchIs (by decide +kernel)) rfl
theorem dX12_matchIs_142 : decode cX12_matchIs 142 = .ok (.imul, 1) := dq_104 (fd_r fcX12_matchIs (by decide +kernel))
theorem dX12_matchIs_143 : decode cX12_matchIs 143 = .ok (.istore_n 1, 1) := dq_60 (fd_r fcX12_matchIs (by decide +kernel))
theorem dX12_matchIs_144 : decode cX12_matchIs 144 = .ok (.iload_n 1, 1) := dq_27 (fd_r fcX12_matchIs (by decide +kernel))
theorem dX12_matchIs_145 : decode cX12_matchIs 145 = .ok (.sipush 20000, 3) := dq_17 (a := 78) (b := 32) (fd_r fcX12_matchIs (by decide +kernel)) rfl
theorem dX12_matchIs_148 : decode cX12_matchIs 148 = .ok (.if_icmp .le 12, 3) := dq_164 (a := 0) (b := 12) (fd_r fcX12_matchIs (by decide +kernel)) rfl
theorem dX12_matchIs_151 : decode cX12_matchIs 151 = .ok (.aload_n 0, 1) := dq_42 (fd_r fcX12_matchIs (by decide +kernel))
theorem dX12_matchIs_152 : decode cX12_matchIs 152 = .ok (.iconst 4, 1) := dq_7 (fd_r fcX12_matchIs (by decide +kernel))
theorem dX12_matchIs_153 : decode cX12_matchIs 153 = .ok (.aload_n 0, 1) := dq_42 (fd_r fcX12_matchIs (by decide +kernel))
theorem dX12_matchIs_154 : decode cX12_matchIs 154 = .ok (.getfield 23, 3) := dq_180 (a := 0) (b := 23) (fd_r fcX12_matchIs (by decide +kernel)) rfl
theorem dX12_matchIs_157 : decode cX12_matchIs 157 = .ok (.invokevirtual 320, 3) := dq_182 (a := 1) (b := 64) (fd_r fcX12_matchIs (by decide +kernel)) rfl
theorem dX12_matchIs_160 : decode cX12_matchIs 160 = .ok (.aload_n 0, 1) := dq_42 (fd_r fcX12_matchIs (by decide +kernel))
theorem dX12_matchIs_161 : decode cX12_matchIs 161 = .ok (.getfield 36, 3) := dq_180 (a := 0) (b := 36) (fd_r fcX12_matchIs (by decide +kernel)) rfl
theorem dX12_matchIs_164 : decode cX12_matchIs 164 = .ok (.ifCond .le 4, 3) := dq_158 (a := 0) (b := 4) (fd_r fcX12_matchIs (by decide +kernel)) rfl
theorem dX12_matchIs_167 : decode cX12_matchIs 167 = .ok (.return_, 1) := dq_177 (fd_r fcX12_matchIs (by decide +kernel))
theorem dX12_matchIs_168 : decode cX12_matchIs 168 = .ok (.aload_n 0, 1) := dq_42 (fd_r fcX12_matchIs (by decide +kernel))
theorem dX12_matchIs_169 : decode cX12_matchIs 169 = .ok (.invokevirtual 337, 3) := dq_182 (a := 1) (b := 81) (fd_r fcX12_matchIs (by decide +kernel)) rfl
theorem dX12_matchIs_172 : decode cX12_matchIs 172 = .ok (.aload_n 0, 1) := dq_42 (fd_r fcX12_matchIs (by decide +kernel))
theorem dX12_matchIs_173 : decode cX12_matchIs 173 = .ok (.invokevirtual 331, 3) := dq_182 (a := 1) (b := 75) (fd_r fcX12_matchIs (by decide +kernel)) rfl
theorem dX12_matchIs_176 : decode cX12_matchIs 176 = .ok (.goto (-130), 3) := dq_167 (a := 255) (b := 126) (fd_r fcX12_matchIs (by decide +kernel)) rfl
theorem dX12_matchIs_179 : decode cX12_matchIs 179 = .ok (.return_, 1) := dq_177 (fd_r fcX12_matchIs (by decide +kernel))
theorem dX12_emits_0 : decode cX12_emits 0 = .ok (.sipush 2800, 3) := dq_17 (a := 10) (b := 240) (fd_r fcX12_emits (by decide +kernel)) rfl
theorem dX12_emits_3 : decode cX12_emits 3 = .ok (.aload_n 0, 1) := dq_42 (fd_r fcX12_emits (by decide +kernel))
theorem dX12_emits_4 : decode cX12_emits 4 = .ok (.getfield 124, 3) := dq_180 (a := 0) (b := 124) (fd_r fcX12_emits (by decide +kernel)) rfl
theorem dX12_emits_7 : decode cX12_emits 7 = .ok (.imul, 1) := dq_104 (fd_r fcX12_emits (by decide +kernel))
theorem dX12_emits_8 : decode cX12_emits 8 = .ok (.aload_n 0, 1) := dq_42 (fd_r fcX12_emits (by decide +kernel))
theorem dX12_emits_9 : decode cX12_emits 9 = .ok (.getfield 121, 3) := dq_180 (a := 0) (b := 121) (fd_r fcX12_emits (by decide +kernel)) rfl
theorem dX12_emits_12 : decode cX12_emits 12 = .ok (.iadd, 1) := dq_96 (fd_r fcX12_emits (by decide +kernel))
theorem dX12_emits_13 : decode cX12_emits 13 = .ok (.istore 4, 2) := dq_54 (a := 4) (fd_r fcX12_emits (by decide +kernel))
theorem dX12_emits_15 : decode cX12_emits 15 = .ok (.aload_n 0, 1) := dq_42 (fd_r fcX12_emits (by decide +kernel))
theorem dX12_emits_16 : decode cX12_emits 16 = .ok (.getfield 105, 3) := dq_180 (a := 0) (b := 105) (fd_r fcX12_emits (by decide +kernel)) rfl
theorem dX12_emits_19 : decode cX12_emits 19 = .ok (.iload 4, 2) := dq_21 (a := 4) (fd_r fcX12_emits (by decide +kernel))
theorem dX12_emits_21 : decode cX12_emits 21 = .ok (.iload_n 1, 1) := dq_27 (fd_r fcX12_emits (by decide +kernel))
theorem dX12_emits_22 : decode cX12_emits 22 = .ok (.iastore, 1) := dq_79 (fd_r fcX12_emits (by decide +kernel))
theorem dX12_emits_23 : decode cX12_emits 23 = .ok (.aload_n 0, 1) := dq_42 (fd_r fcX12_emits (by decide +kernel))
theorem dX12_emits_24 : decode cX12_emits 24 = .ok (.getfield 108, 3) := dq_180 (a := 0) (b := 108) (fd_r fcX12_emits (by decide +kernel)) rfl
theorem dX12_emits_27 : decode cX12_emits 27 = .ok (.iload 4, 2) := dq_21 (a := 4) (fd_r fcX12_emits (by decide +kernel))
theorem dX12_emits_29 : decode cX12_emits 29 = .ok (.iload_n 2, 1) := dq_28 (fd_r fcX12_emits (by decide +kernel))
theorem dX12_emits_30 : decode cX12_emits 30 = .ok (.iastore, 1) := dq_79 (fd_r fcX12_emits (by decide +kernel))
theorem dX12_emits_31 : decode cX12_emits 31 = .ok (.aload_n 0, 1) := dq_42 (fd_r fcX12_emits (by decide +kernel))
theorem dX12_emits_32 : decode cX12_emits 32 = .ok (.getfield 111, 3) := dq_180 (a := 0) (b := 111) (fd_r fcX12_emits (by decide +kernel)) rfl
theorem dX12_emits_35 : decode cX12_emits 35 = .ok (.iload 4, 2) := dq_21 (a := 4) (fd_r fcX12_emits (by decide +kernel))
theorem dX12_emits_37 : decode cX12_emits 37 = .ok (.iload_n 3, 1) := dq_29 (fd_r fcX12_emits (by decide +kernel))
theorem dX12_emits_38 : decode cX12_emits 38 = .ok (.iastore, 1) := dq_79 (fd_r fcX12_emits (by decide +kernel))
theorem dX12_emits_39 : decode cX12_emits 39 = .ok (.aload_n 0, 1) := dq_42 (fd_r fcX12_emits (by decide +kernel))
theorem dX12_emits_40 : decode cX12_emits 40 = .ok (.dup, 1) := dq_89 (fd_r fcX12_emits (by decide +kernel))
theorem dX12_emits_41 : decode cX12_emits 41 = .ok (.getfield 121, 3) := dq_180 (a := 0) (b := 121) (fd_r fcX12_emits (by decide +kernel)) rfl
theorem dX12_emits_44 : decode cX12_emits 44 = .ok (.iconst 1, 1) := dq_4 (fd_r fcX12_emits (by decide +kernel))
theorem dX12_emits_45 : decode cX12_emits 45 = .ok (.iadd, 1) := dq_96 (fd_r fcX12_emits (by decide +kernel))
theorem dX12_emits_46 : decode cX12_emits 46 = .ok (.putfield 121, 3) := dq_181 (a := 0) (b := 121) (fd_r fcX12_emits (by decide +kernel)) rfl
theorem dX12_emits_49 : decode cX12_emits 49 = .ok (.return_, 1) := dq_177 (fd_r fcX12_emits (by decide +kernel))
theorem dX12_opensPattern_0 : decode cX12_opensPattern 0 = .ok (.aload_n 0, 1) := dq_42 (fd_r fcX12_opensPattern (by decide +kernel))
theorem dX12_opensPattern_1 : decode cX12_opensPattern 1 = .ok (.dup, 1) := dq_89 (fd_r fcX12_opensPattern (by decide +kernel))
theorem dX12_opensPattern_2 : decode cX12_opensPattern 2 = .ok (.getfield 143, 3) := dq_180 (a := 0) (b := 143) (fd_r fcX12_opensPattern (by decide +kernel)) rfl
theorem dX12_opensPattern_5 : decode cX12_opensPattern 5 = .ok (.iconst 1, 1) := dq_4 (fd_r fcX12_opensPattern (by decide +kernel))
theorem dX12_opensPattern_6 : decode cX12_opensPattern 6 = .ok (.iadd, 1) := dq_96 (fd_r fcX12_opensPattern (by decide +kernel))
theorem dX12_opensPattern_7 : decode cX12_opensPattern 7 = .ok (.putfield 143, 3) := dq_181 (a := 0) (b := 143) (fd_r fcX12_opensPattern (by decide +kernel)) rfl
theorem dX12_opensPattern_10 : decode cX12_opensPattern 10 = .ok (.aload_n 0, 1) := dq_42 (fd_r fcX12_opensPattern (by decide +kernel))
theorem dX12_opensPattern_11 : decode cX12_opensPattern 11 = .ok (.getfield 131, 3) := dq_180 (a := 0) (b := 131) (fd_r fcX12_opensPattern (by decide +kernel)) rfl
theorem dX12_opensPattern_14 : decode cX12_opensPattern 14 = .ok (.aload_n 0, 1) := dq_42 (fd_r fcX12_opensPattern (by decide +kernel))
theorem dX12_opensPattern_15 : decode cX12_opensPattern 15 = .ok (.getfield 143, 3) := dq_180 (a := 0) (b := 143) (fd_r fcX12_opensPattern (by decide +kernel)) rfl
theorem dX12_opensPattern_18 : decode cX12_opensPattern 18 = .ok (.iload_n 1, 1) := dq_27 (fd_r fcX12_opensPattern (by decide +kernel))
theorem dX12_opensPattern_19 : decode cX12_opensPattern 19 = .ok (.iastore, 1) := dq_79 (fd_r fcX12_opensPattern (by decide +kernel))
theorem dX12_opensPattern_20 : decode cX12_opensPattern 20 = .ok (.aload_n 0, 1) := dq_42 (fd_r fcX12_opensPattern (by decide +kernel))
theorem dX12_opensPattern_21 : decode cX12_opensPattern 21 = .ok (.getfield 134, 3) := dq_180 (a := 0) (b := 134) (fd_r fcX12_opensPattern (by decide +kernel)) rfl
theorem dX12_opensPattern_24 : decode cX12_opensPattern 24 = .ok (.aload_n 0, 1) := dq_42 (fd_r fcX12_opensPattern (by decide +kernel))
theorem dX12_opensPattern_25 : decode cX12_opensPattern 25 = .ok (.getfield 143, 3) := dq_180 (a := 0) (b := 143) (fd_r fcX12_opensPattern (by decide +kernel)) rfl
theorem dX12_opensPattern_28 : decode cX12_opensPattern 28 = .ok (.iconst 0, 1) := dq_3 (fd_r fcX12_opensPattern (by decide +kernel))
theorem dX12_opensPattern_29 : decode cX12_opensPattern 29 = .ok (.iastore, 1) := dq_79 (fd_r fcX12_opensPattern (by decide +kernel))
theorem dX12_opensPattern_30 : decode cX12_opensPattern 30 = .ok (.return_, 1) := dq_177 (fd_r fcX12_opensPattern (by decide +kernel))
theorem dX12_fieldBegins_0 : decode cX12_fieldBegins 0 = .ok (.aload_n 0, 1) := dq_42 (fd_r fcX12_fieldBegins (by decide +kernel))
theorem dX12_fieldBegins_1 : decode cX12_fieldBegins 1 = .ok (.getfield 137, 3) := dq_180 (a := 0) (b := 137) (fd_r fcX12_fieldBegins (by decide +kernel)) rfl
theorem dX12_fieldBegins_4 : decode cX12_fieldBegins 4 = .ok (.aload_n 0, 1) := dq_42 (fd_r fcX12_fieldBegins (by decide +kernel))
theorem dX12_fieldBegins_5 : decode cX12_fieldBegins 5 = .ok (.getfield 143, 3) := dq_180 (a := 0) (b := 143) (fd_r fcX12_fieldBegins (by decide +kernel)) rfl
theorem dX12_fieldBegins_8 : decode cX12_fieldBegins 8 = .ok (.iload_n 1, 1) := dq_27 (fd_r fcX12_fieldBegins (by decide +kernel))
theorem dX12_fieldBegins_9 : decode cX12_fieldBegins 9 = .ok (.iastore, 1) := dq_79 (fd_r fcX12_fieldBegins (by decide +kernel))
theorem dX12_fieldBegins_10 : decode cX12_fieldBegins 10 = .ok (.aload_n 0, 1) := dq_42 (fd_r fcX12_fieldBegins (by decide +kernel))
theorem dX12_fieldBegins_11 : decode cX12_fieldBegins 11 = .ok (.getfield 140, 3) := dq_180 (a := 0) (b := 140) (fd_r fcX12_fieldBegins (by decide +kernel)) rfl
theorem dX12_fieldBegins_14 : decode cX12_fieldBegins 14 = .ok (.aload_n 0, 1) := dq_42 (fd_r fcX12_fieldBegins (by decide +kernel))
theorem dX12_fieldBegins_15 : decode cX12_fieldBegins 15 = .ok (.getfield 143, 3) := dq_180 (a := 0) (b := 143) (fd_r fcX12_fieldBegins (by decide +kernel)) rfl
theorem dX12_fieldBegins_18 : decode cX12_fieldBegins 18 = .ok (.iload_n 2, 1) := dq_28 (fd_r fcX12_fieldBegins (by decide +kernel))
theorem dX12_fieldBegins_19 : decode cX12_fieldBegins 19 = .ok (.iastore, 1) := dq_79 (fd_r fcX12_fieldBegins (by decide +kernel))
theorem dX12_fieldBegins_20 : decode cX12_fieldBegins 20 = .ok (.aload_n 0, 1) := dq_42 (fd_r fcX12_fieldBegins (by decide +kernel))
theorem dX12_fieldBegins_21 : decode cX12_fieldBegins 21 = .ok (.iconst 3, 1) := dq_6 (fd_r fcX12_fieldBegins (by decide +kernel))
theorem dX12_fieldBegins_22 : decode cX12_fieldBegins 22 = .ok (.iload_n 1, 1) := dq_27 (fd_r fcX12_fieldBegins (by decide +kernel))
theorem dX12_fieldBegins_23 : decode cX12_fieldBegins 23 = .ok (.iload_n 2, 1) := dq_28 (fd_r fcX12_fieldBegins (by decide +kernel))
theorem dX12_fieldBegins_24 : decode cX12_fieldBegins 24 = .ok (.invokevirtual 400, 3) := dq_182 (a := 1) (b := 144) (fd_r fcX12_fieldBegins (by decide +kernel)) rfl
theorem dX12_fieldBegins_27 : decode cX12_fieldBegins 27 = .ok (.aload_n 0, 1) := dq_42 (fd_r fcX12_fieldBegins (by decide +kernel))
theorem dX12_fieldBegins_28 : decode cX12_fieldBegins 28 = .ok (.aload_n 0, 1) := dq_42 (fd_r fcX12_fieldBegins (by decide +kernel))
theorem dX12_fieldBegins_29 : decode cX12_fieldBegins 29 = .ok (.getfield 72, 3) := dq_180 (a := 0) (b := 72) (fd_r fcX12_fieldBegins (by decide +kernel)) rfl
theorem dX12_fieldBegins_32 : decode cX12_fieldBegins 32 = .ok (.iconst 2, 1) := dq_5 (fd_r fcX12_fieldBegins (by decide +kernel))
theorem dX12_fieldBegins_33 : decode cX12_fieldBegins 33 = .ok (.bipush 24, 2) := dq_16 (a := 24) (fd_r fcX12_fieldBegins (by decide +kernel)) rfl
theorem dX12_fieldBegins_35 : decode cX12_fieldBegins 35 = .ok (.aload_n 0, 1) := dq_42 (fd_r fcX12_fieldBegins (by decide +kernel))
theorem dX12_fieldBegins_36 : decode cX12_fieldBegins 36 = .ok (.getfield 124, 3) := dq_180 (a := 0) (b := 124) (fd_r fcX12_fieldBegins (by decide +kernel)) rfl
theorem dX12_fieldBegins_39 : decode cX12_fieldBegins 39 = .ok (.imul, 1) := dq_104 (fd_r fcX12_fieldBegins (by decide +kernel))
theorem dX12_fieldBegins_40 : decode cX12_fieldBegins 40 = .ok (.iload_n 1, 1) := dq_27 (fd_r fcX12_fieldBegins (by decide +kernel))
theorem dX12_fieldBegins_41 : decode cX12_fieldBegins 41 = .ok (.iadd, 1) := dq_96 (fd_r fcX12_fieldBegins (by decide +kernel))
theorem dX12_fieldBegins_42 : decode cX12_fieldBegins 42 = .ok (.imul, 1) := dq_104 (fd_r fcX12_fieldBegins (by decide +kernel))
theorem dX12_fieldBegins_43 : decode cX12_fieldBegins 43 = .ok (.iload_n 2, 1) := dq_28 (fd_r fcX12_fieldBegins (by decide +kernel))
theorem dX12_fieldBegins_44 : decode cX12_fieldBegins 44 = .ok (.iadd, 1) := dq_96 (fd_r fcX12_fieldBegins (by decide +kernel))
theorem dX12_fieldBegins_45 : decode cX12_fieldBegins 45 = .ok (.iaload, 1) := dq_46 (fd_r fcX12_fieldBegins (by decide +kernel))
theorem dX12_fieldBegins_46 : decode cX12_fieldBegins 46 = .ok (.invokevirtual 404, 3) := dq_182 (a := 1) (b := 148) (fd_r fcX12_fieldBegins (by decide +kernel)) rfl
theorem dX12_fieldBegins_49 : decode cX12_fieldBegins 49 = .ok (.return_, 1) := dq_177 (fd_r fcX12_fieldBegins (by decide +kernel))
theorem dX12_range_0 : decode cX12_range 0 = .ok (.aload_n 0, 1) := dq_42 (fd_r fcX12_range (by decide +kernel))
theorem dX12_range_1 : decode cX12_range 1 = .ok (.iconst 0, 1) := dq_3 (fd_r fcX12_range (by decide +kernel))
theorem dX12_range_2 : decode cX12_range 2 = .ok (.bipush 19, 2) := dq_16 (a := 19) (fd_r fcX12_range (by decide +kernel)) rfl
theorem dX12_range_4 : decode cX12_range 4 = .ok (.invokevirtual 407, 3) := dq_182 (a := 1) (b := 151) (fd_r fcX12_range (by decide +kernel)) rfl
theorem dX12_range_7 : decode cX12_range 7 = .ok (.istore_n 1, 1) := dq_60 (fd_r fcX12_range (by decide +kernel))
theorem dX12_range_8 : decode cX12_range 8 = .ok (.aload_n 0, 1) := dq_42 (fd_r fcX12_range (by decide +kernel))
theorem dX12_range_9 : decode cX12_range 9 = .ok (.getfield 36, 3) := dq_180 (a := 0) (b := 36) (fd_r fcX12_range (by decide +kernel)) rfl
theorem dX12_range_12 : decode cX12_range 12 = .ok (.ifCond .le 4, 3) := dq_158 (a := 0) (b := 4) (fd_r fcX12_range (by decide +kernel)) rfl
theorem dX12_range_15 : decode cX12_range 15 = .ok (.return_, 1) := dq_177 (fd_r fcX12_range (by decide +kernel))
theorem dX12_range_16 : decode cX12_range 16 = .ok (.aload_n 0, 1) := dq_42 (fd_r fcX12_range (by decide +kernel))
theorem dX12_range_17 : decode cX12_range 17 = .ok (.invokevirtual 331, 3) := dq_182 (a := 1) (b := 75) (fd_r fcX12_range (by decide +kernel)) rfl
theorem dX12_range_20 : decode cX12_range 20 = .ok (.iload_n 1, 1) := dq_27 (fd_r fcX12_range (by decide +kernel))
theorem dX12_range_21 : decode cX12_range 21 = .ok (.istore_n 2, 1) := dq_61 (fd_r fcX12_range (by decide +kernel))
theorem dX12_range_22 : decode cX12_range 22 = .ok (.aload_n 0, 1) := dq_42 (fd_r fcX12_range (by decide +kernel))
theorem dX12_range_23 : decode cX12_range 23 = .ok (.getfield 36, 3) := dq_180 (a := 0) (b := 36) (fd_r fcX12_range (by decide +kernel)) rfl
theorem dX12_range_26 : decode cX12_range 26 = .ok (.ifCond .ne 25, 3) := dq_154 (a := 0) (b := 25) (fd_r fcX12_range (by decide +kernel)) rfl
theorem dX12_range_29 : decode cX12_range 29 = .ok (.aload_n 0, 1) := dq_42 (fd_r fcX12_range (by decide +kernel))
theorem dX12_range_30 : decode cX12_range 30 = .ok (.ldc2_w 360, 3) := dq_20 (a := 1) (b := 104) (fd_r fcX12_range (by decide +kernel)) rfl
theorem dX12_range_33 : decode cX12_range 33 = .ok (.invokevirtual 386, 3) := dq_182 (a := 1) (b := 130) (fd_r fcX12_range (by decide +kernel)) rfl
theorem dX12_range_36 : decode cX12_range 36 = .ok (.ifCond .eq 15, 3) := dq_153 (a := 0) (b := 15) (fd_r fcX12_range (by decide +kernel)) rfl
theorem dX12_range_39 : decode cX12_range 39 = .ok (.aload_n 0, 1) := dq_42 (fd_r fcX12_range (by decide +kernel))
theorem dX12_range_40 : decode cX12_range 40 = .ok (.invokevirtual 337, 3) := dq_182 (a := 1) (b := 81) (fd_r fcX12_range (by decide +kernel)) rfl
theorem dX12_range_43 : decode cX12_range 43 = .ok (.aload_n 0, 1) := dq_42 (fd_r fcX12_range (by decide +kernel))
theorem dX12_range_44 : decode cX12_range 44 = .ok (.iload_n 1, 1) := dq_27 (fd_r fcX12_range (by decide +kernel))
theorem dX12_range_45 : decode cX12_range 45 = .ok (.bipush 19, 2) := dq_16 (a := 19) (fd_r fcX12_range (by decide +kernel)) rfl
theorem dX12_range_47 : decode cX12_range 47 = .ok (.invokevirtual 407, 3) := dq_182 (a := 1) (b := 151) (fd_r fcX12_range (by decide +kernel)) rfl
theorem dX12_range_50 : decode cX12_range 50 = .ok (.istore_n 2, 1) := dq_61 (fd_r fcX12_range (by decide +kernel))
theorem dX12_range_51 : decode cX12_range 51 = .ok (.aload_n 0, 1) := dq_42 (fd_r fcX12_range (by decide +kernel))
theorem dX12_range_52 : decode cX12_range 52 = .ok (.getfield 36, 3) := dq_180 (a := 0) (b := 36) (fd_r fcX12_range (by decide +kernel)) rfl
theorem dX12_range_55 : decode cX12_range 55 = .ok (.ifCond .ne 10, 3) := dq_154 (a := 0) (b := 10) (fd_r fcX12_range (by decide +kernel)) rfl
theorem dX12_range_58 : decode cX12_range 58 = .ok (.aload_n 0, 1) := dq_42 (fd_r fcX12_range (by decide +kernel))
theorem dX12_range_59 : decode cX12_range 59 = .ok (.iconst 1, 1) := dq_4 (fd_r fcX12_range (by decide +kernel))
theorem dX12_range_60 : decode cX12_range 60 = .ok (.iload_n 1, 1) := dq_27 (fd_r fcX12_range (by decide +kernel))
theorem dX12_range_61 : decode cX12_range 61 = .ok (.iload_n 2, 1) := dq_28 (fd_r fcX12_range (by decide +kernel))
theorem dX12_range_62 : decode cX12_range 62 = .ok (.invokevirtual 400, 3) := dq_182 (a := 1) (b := 144) (fd_r fcX12_range (by decide +kernel)) rfl
theorem dX12_range_65 : decode cX12_range 65 = .ok (.return_, 1) := dq_177 (fd_r fcX12_range (by decide +kernel))
theorem dX12_alternative_0 : decode cX12_alternative 0 = .ok (.aload_n 0, 1) := dq_42 (fd_r fcX12_alternative (by decide +kernel))
theorem dX12_alternative_1 : decode cX12_alternative 1 = .ok (.invokevirtual 331, 3) := dq_182 (a := 1) (b := 75) (fd_r fcX12_alternative (by decide +kernel)) rfl
theorem dX12_alternative_4 : decode cX12_alternative 4 = .ok (.aload_n 0, 1) := dq_42 (fd_r fcX12_alternative (by decide +kernel))
theorem dX12_alternative_5 : decode cX12_alternative 5 = .ok (.getfield 36, 3) := dq_180 (a := 0) (b := 36) (fd_r fcX12_alternative (by decide +kernel)) rfl
theorem dX12_alternative_8 : decode cX12_alternative 8 = .ok (.ifCond .le 5, 3) := dq_158 (a := 0) (b := 5) (fd_r fcX12_alternative (by decide +kernel)) rfl
theorem dX12_alternative_11 : decode cX12_alternative 11 = .ok (.iconst 1, 1) := dq_4 (fd_r fcX12_alternative (by decide +kernel))
theorem dX12_alternative_12 : decode cX12_alternative 12 = .ok (.ireturn, 1) := dq_172 (fd_r fcX12_alternative (by decide +kernel))
theorem dX12_alternative_13 : decode cX12_alternative 13 = .ok (.aload_n 0, 1) := dq_42 (fd_r fcX12_alternative (by decide +kernel))
theorem dX12_alternative_14 : decode cX12_alternative 14 = .ok (.ldc2_w 356, 3) := dq_20 (a := 1) (b := 100) (fd_r fcX12_alternative (by decide +kernel)) rfl
theorem dX12_alternative_17 : decode cX12_alternative 17 = .ok (.invokevirtual 386, 3) := dq_182 (a := 1) (b := 130) (fd_r fcX12_alternative (by decide +kernel)) rfl
theorem dX12_alternative_20 : decode cX12_alternative 20 = .ok (.ifCond .eq 16, 3) := dq_153 (a := 0) (b := 16) (fd_r fcX12_alternative (by decide +kernel)) rfl
theorem dX12_alternative_23 : decode cX12_alternative 23 = .ok (.aload_n 0, 1) := dq_42 (fd_r fcX12_alternative (by decide +kernel))
theorem dX12_alternative_24 : decode cX12_alternative 24 = .ok (.invokevirtual 337, 3) := dq_182 (a := 1) (b := 81) (fd_r fcX12_alternative (by decide +kernel)) rfl
theorem dX12_alternative_27 : decode cX12_alternative 27 = .ok (.aload_n 0, 1) := dq_42 (fd_r fcX12_alternative (by decide +kernel))
theorem dX12_alternative_28 : decode cX12_alternative 28 = .ok (.iconst 0, 1) := dq_3 (fd_r fcX12_alternative (by decide +kernel))
theorem dX12_alternative_29 : decode cX12_alternative 29 = .ok (.iconst 0, 1) := dq_3 (fd_r fcX12_alternative (by decide +kernel))
theorem dX12_alternative_30 : decode cX12_alternative 30 = .ok (.iconst 0, 1) := dq_3 (fd_r fcX12_alternative (by decide +kernel))
theorem dX12_alternative_31 : decode cX12_alternative 31 = .ok (.invokevirtual 400, 3) := dq_182 (a := 1) (b := 144) (fd_r fcX12_alternative (by decide +kernel)) rfl
theorem dX12_alternative_34 : decode cX12_alternative 34 = .ok (.iconst 1, 1) := dq_4 (fd_r fcX12_alternative (by decide +kernel))
theorem dX12_alternative_35 : decode cX12_alternative 35 = .ok (.ireturn, 1) := dq_172 (fd_r fcX12_alternative (by decide +kernel))
theorem dX12_alternative_36 : decode cX12_alternative 36 = .ok (.aload_n 0, 1) := dq_42 (fd_r fcX12_alternative (by decide +kernel))
theorem dX12_alternative_37 : decode cX12_alternative 37 = .ok (.getfield 131, 3) := dq_180 (a := 0) (b := 131) (fd_r fcX12_alternative (by decide +kernel)) rfl
theorem dX12_alternative_40 : decode cX12_alternative 40 = .ok (.aload_n 0, 1) := dq_42 (fd_r fcX12_alternative (by decide +kernel))
theorem dX12_alternative_41 : decode cX12_alternative 41 = .ok (.getfield 143, 3) := dq_180 (a := 0) (b := 143) (fd_r fcX12_alternative (by decide +kernel)) rfl
theorem dX12_alternative_44 : decode cX12_alternative 44 = .ok (.iaload, 1) := dq_46 (fd_r fcX12_alternative (by decide +kernel))
theorem dX12_alternative_45 : decode cX12_alternative 45 = .ok (.istore_n 1, 1) := dq_60 (fd_r fcX12_alternative (by decide +kernel))
theorem dX12_alternative_46 : decode cX12_alternative 46 = .ok (.iload_n 1, 1) := dq_27 (fd_r fcX12_alternative (by decide +kernel))
theorem dX12_alternative_47 : decode cX12_alternative 47 = .ok (.iconst 4, 1) := dq_7 (fd_r fcX12_alternative (by decide +kernel))
theorem dX12_alternative_48 : decode cX12_alternative 48 = .ok (.if_icmp .ne 9, 3) := dq_160 (a := 0) (b := 9) (fd_r fcX12_alternative (by decide +kernel)) rfl
theorem dX12_alternative_51 : decode cX12_alternative 51 = .ok (.aload_n 0, 1) := dq_42 (fd_r fcX12_alternative (by decide +kernel))
theorem dX12_alternative_52 : decode cX12_alternative 52 = .ok (.invokevirtual 410, 3) := dq_182 (a := 1) (b := 154) (fd_r fcX12_alternative (by decide +kernel)) rfl
theorem dX12_alternative_55 : decode cX12_alternative 55 = .ok (.iconst 1, 1) := dq_4 (fd_r fcX12_alternative (by decide +kernel))
theorem dX12_alternative_56 : decode cX12_alternative 56 = .ok (.ireturn, 1) := dq_172 (fd_r fcX12_alternative (by decide +kernel))
theorem dX12_alternative_57 : decode cX12_alternative 57 = .ok (.aload_n 0, 1) := dq_42 (fd_r fcX12_alternative (by decide +kernel))
theorem dX12_alternative_58 : decode cX12_alternative 58 = .ok (.getfield 20, 3) := dq_180 (a := 0) (b := 20) (fd_r fcX12_alternative (by decide +kernel)) rfl
theorem dX12_alternative_61 : decode cX12_alternative 61 = .ok (.iconst 1, 1) := dq_4 (fd_r fcX12_alternative (by decide +kernel))
theorem dX12_alternative_62 : decode cX12_alternative 62 = .ok (.if_icmp .ne 14, 3) := dq_160 (a := 0) (b := 14) (fd_r fcX12_alternative (by decide +kernel)) rfl
theorem dX12_alternative_65 : decode cX12_alternative 65 = .ok (.aload_n 0, 1) := dq_42 (fd_r fcX12_alternative (by decide +kernel))
theorem dX12_alternative_66 : decode cX12_alternative 66 = .ok (.aload_n 0, 1) := dq_42 (fd_r fcX12_alternative (by decide +kernel))
theorem dX12_alternative_67 : decode cX12_alternative 67 = .ok (.getfield 32, 3) := dq_180 (a := 0) (b := 32) (fd_r fcX12_alternative (by decide +kernel)) rfl
theorem dX12_alternative_70 : decode cX12_alternative 70 = .ok (.invokevirtual 366, 3) := dq_182 (a := 1) (b := 110) (fd_r fcX12_alternative (by decide +kernel)) rfl
theorem dX12_alternative_73 : decode cX12_alternative 73 = .ok (.ifCond .eq 12, 3) := dq_153 (a := 0) (b := 12) (fd_r fcX12_alternative (by decide +kernel)) rfl
theorem dX12_alternative_76 : decode cX12_alternative 76 = .ok (.aload_n 0, 1) := dq_42 (fd_r fcX12_alternative (by decide +kernel))
theorem dX12_alternative_77 : decode cX12_alternative 77 = .ok (.iconst 1, 1) := dq_4 (fd_r fcX12_alternative (by decide +kernel))
theorem dX12_alternative_78 : decode cX12_alternative 78 = .ok (.aload_n 0, 1) := dq_42 (fd_r fcX12_alternative (by decide +kernel))
theorem dX12_alternative_79 : decode cX12_alternative 79 = .ok (.getfield 23, 3) := dq_180 (a := 0) (b := 23) (fd_r fcX12_alternative (by decide +kernel)) rfl
theorem dX12_alternative_82 : decode cX12_alternative 82 = .ok (.invokevirtual 320, 3) := dq_182 (a := 1) (b := 64) (fd_r fcX12_alternative (by decide +kernel)) rfl
theorem dX12_alternative_85 : decode cX12_alternative 85 = .ok (.aload_n 0, 1) := dq_42 (fd_r fcX12_alternative (by decide +kernel))
theorem dX12_alternative_86 : decode cX12_alternative 86 = .ok (.getfield 36, 3) := dq_180 (a := 0) (b := 36) (fd_r fcX12_alternative (by decide +kernel)) rfl
theorem dX12_alternative_89 : decode cX12_alternative 89 = .ok (.ifCond .le 7, 3) := dq_158 (a := 0) (b := 7) (fd_r fcX12_alternative (by decide +kernel)) rfl
theorem dX12_alternative_92 : decode cX12_alternative 92 = .ok (.iconst (-1), 1) := dq_2 (fd_r fcX12_alternative (by decide +kernel))
theorem dX12_alternative_93 : decode cX12_alternative 93 = .ok (.goto 15, 3) := dq_167 (a := 0) (b := 15) (fd_r fcX12_alternative (by decide +kernel)) rfl
theorem dX12_alternative_96 : decode cX12_alternative 96 = .ok (.aload_n 0, 1) := dq_42 (fd_r fcX12_alternative (by decide +kernel))
theorem dX12_alternative_97 : decode cX12_alternative 97 = .ok (.aload_n 0, 1) := dq_42 (fd_r fcX12_alternative (by decide +kernel))
theorem dX12_alternative_98 : decode cX12_alternative 98 = .ok (.getfield 124, 3) := dq_180 (a := 0) (b := 124) (fd_r fcX12_alternative (by decide +kernel)) rfl
theorem dX12_alternative_101 : decode cX12_alternative 101 = .ok (.aload_n 0, 1) := dq_42 (fd_r fcX12_alternative (by decide +kernel))
theorem dX12_alternative_102 : decode cX12_alternative 102 = .ok (.getfield 32, 3) := dq_180 (a := 0) (b := 32) (fd_r fcX12_alternative (by decide +kernel)) rfl
theorem dX12_alternative_105 : decode cX12_alternative 105 = .ok (.invokevirtual 374, 3) := dq_182 (a := 1) (b := 118) (fd_r fcX12_alternative (by decide +kernel)) rfl
theorem dX12_alternative_108 : decode cX12_alternative 108 = .ok (.istore_n 2, 1) := dq_61 (fd_r fcX12_alternative (by decide +kernel))
theorem dX12_alternative_109 : decode cX12_alternative 109 = .ok (.aload_n 0, 1) := dq_42 (fd_r fcX12_alternative (by decide +kernel))
theorem dX12_alternative_110 : decode cX12_alternative 110 = .ok (.getfield 36, 3) := dq_180 (a := 0) (b := 36) (fd_r fcX12_alternative (by decide +kernel)) rfl
theorem dX12_alternative_113 : decode cX12_alternative 113 = .ok (.ifCond .ne 35, 3) := dq_154 (a := 0) (b := 35) (fd_r fcX12_alternative (by decide +kernel)) rfl
theorem dX12_alternative_116 : decode cX12_alternative 116 = .ok (.iload_n 2, 1) := dq_28 (fd_r fcX12_alternative (by decide +kernel))
theorem dX12_alternative_117 : decode cX12_alternative 117 = .ok (.iconst (-1), 1) := dq_2 (fd_r fcX12_alternative (by decide +kernel))
theorem dX12_alternative_118 : decode cX12_alternative 118 = .ok (.if_icmp .eq 21, 3) := dq_159 (a := 0) (b := 21) (fd_r fcX12_alternative (by decide +kernel)) rfl
theorem dX12_alternative_121 : decode cX12_alternative 121 = .ok (.aload_n 0, 1) := dq_42 (fd_r fcX12_alternative (by decide +kernel))
theorem dX12_alternative_122 : decode cX12_alternative 122 = .ok (.getfield 66, 3) := dq_180 (a := 0) (b := 66) (fd_r fcX12_alternative (by decide +kernel)) rfl
theorem dX12_alternative_125 : decode cX12_alternative 125 = .ok (.bipush 24, 2) := dq_16 (a := 24) (fd_r fcX12_alternative (by decide +kernel)) rfl
theorem dX12_alternative_127 : decode cX12_alternative 127 = .ok (.aload_n 0, 1) := dq_42 (fd_r fcX12_alternative (by decide +kernel))
theorem dX12_alternative_128 : decode cX12_alternative 128 = .ok (.getfield 124, 3) := dq_180 (a := 0) (b := 124) (fd_r fcX12_alternative (by decide +kernel)) rfl
theorem dX12_alternative_131 : decode cX12_alternative 131 = .ok (.imul, 1) := dq_104 (fd_r fcX12_alternative (by decide +kernel))
theorem dX12_alternative_132 : decode cX12_alternative 132 = .ok (.iload_n 2, 1) := dq_28 (fd_r fcX12_alternative (by decide +kernel))
theorem dX12_alternative_133 : decode cX12_alternative 133 = .ok (.iadd, 1) := dq_96 (fd_r fcX12_alternative (by decide +kernel))
theorem dX12_alternative_134 : decode cX12_alternative 134 = .ok (.iaload, 1) := dq_46 (fd_r fcX12_alternative (by decide +kernel))
theorem dX12_alternative_135 : decode cX12_alternative 135 = .ok (.iload_n 1, 1) := dq_27 (fd_r fcX12_alternative (by decide +kernel))
theorem dX12_alternative_136 : decode cX12_alternative 136 = .ok (.if_icmp .eq 12, 3) := dq_159 (a := 0) (b := 12) (fd_r fcX12_alternative (by decide +kernel)) rfl
theorem dX12_alternative_139 : decode cX12_alternative 139 = .ok (.aload_n 0, 1) := dq_42 (fd_r fcX12_alternative (by decide +kernel))
theorem dX12_alternative_140 : decode cX12_alternative 140 = .ok (.iconst 3, 1) := dq_6 (fd_r fcX12_alternative (by decide +kernel))
theorem dX12_alternative_141 : decode cX12_alternative 141 = .ok (.aload_n 0, 1) := dq_42 (fd_r fcX12_alternative (by decide +kernel))
theorem dX12_alternative_142 : decode cX12_alternative 142 = .ok (.getfield 23, 3) := dq_180 (a := 0) (b := 23) (fd_r fcX12_alternative (by decide +kernel)) rfl
theorem dX12_alternative_145 : decode cX12_alternative 145 = .ok (.invokevirtual 320, 3) := dq_182 (a := 1) (b := 64) (fd_r fcX12_alternative (by decide +kernel)) rfl
theorem dX12_alternative_148 : decode cX12_alternative 148 = .ok (.aload_n 0, 1) := dq_42 (fd_r fcX12_alternative (by decide +kernel))
theorem dX12_alternative_149 : decode cX12_alternative 149 = .ok (.getfield 36, 3) := dq_180 (a := 0) (b := 36) (fd_r fcX12_alternative (by decide +kernel)) rfl
theorem dX12_alternative_152 : decode cX12_alternative 152 = .ok (.ifCond .le 5, 3) := dq_158 (a := 0) (b := 5) (fd_r fcX12_alternative (by decide +kernel)) rfl
theorem dX12_alternative_155 : decode cX12_alternative 155 = .ok (.iconst 1, 1) := dq_4 (fd_r fcX12_alternative (by decide +kernel))
theorem dX12_alternative_156 : decode cX12_alternative 156 = .ok (.ireturn, 1) := dq_172 (fd_r fcX12_alternative (by decide +kernel))
theorem dX12_alternative_157 : decode cX12_alternative 157 = .ok (.aload_n 0, 1) := dq_42 (fd_r fcX12_alternative (by decide +kernel))
theorem dX12_alternative_158 : decode cX12_alternative 158 = .ok (.invokevirtual 337, 3) := dq_182 (a := 1) (b := 81) (fd_r fcX12_alternative (by decide +kernel)) rfl
theorem dX12_alternative_161 : decode cX12_alternative 161 = .ok (.aload_n 0, 1) := dq_42 (fd_r fcX12_alternative (by decide +kernel))
theorem dX12_alternative_162 : decode cX12_alternative 162 = .ok (.iconst 2, 1) := dq_5 (fd_r fcX12_alternative (by decide +kernel))
theorem dX12_alternative_163 : decode cX12_alternative 163 = .ok (.iload_n 2, 1) := dq_28 (fd_r fcX12_alternative (by decide +kernel))
theorem dX12_alternative_164 : decode cX12_alternative 164 = .ok (.iconst 0, 1) := dq_3 (fd_r fcX12_alternative (by decide +kernel))
theorem dX12_alternative_165 : decode cX12_alternative 165 = .ok (.invokevirtual 400, 3) := dq_182 (a := 1) (b := 144) (fd_r fcX12_alternative (by decide +kernel)) rfl
theorem dX12_alternative_168 : decode cX12_alternative 168 = .ok (.aload_n 0, 1) := dq_42 (fd_r fcX12_alternative (by decide +kernel))
theorem dX12_alternative_169 : decode cX12_alternative 169 = .ok (.getfield 69, 3) := dq_180 (a := 0) (b := 69) (fd_r fcX12_alternative (by decide +kernel)) rfl
theorem dX12_alternative_172 : decode cX12_alternative 172 = .ok (.bipush 24, 2) := dq_16 (a := 24) (fd_r fcX12_alternative (by decide +kernel)) rfl
theorem dX12_alternative_174 : decode cX12_alternative 174 = .ok (.aload_n 0, 1) := dq_42 (fd_r fcX12_alternative (by decide +kernel))
theorem dX12_alternative_175 : decode cX12_alternative 175 = .ok (.getfield 124, 3) := dq_180 (a := 0) (b := 124) (fd_r fcX12_alternative (by decide +kernel)) rfl
theorem dX12_alternative_178 : decode cX12_alternative 178 = .ok (.imul, 1) := dq_104 (fd_r fcX12_alternative (by decide +kernel))
theorem dX12_alternative_179 : decode cX12_alternative 179 = .ok (.iload_n 2, 1) := dq_28 (fd_r fcX12_alternative (by decide +kernel))
theorem dX12_alternative_180 : decode cX12_alternative 180 = .ok (.iadd, 1) := dq_96 (fd_r fcX12_alternative (by decide +kernel))
theorem dX12_alternative_181 : decode cX12_alternative 181 = .ok (.iaload, 1) := dq_46 (fd_r fcX12_alternative (by decide +kernel))
theorem dX12_alternative_182 : decode cX12_alternative 182 = .ok (.ifCond .ne 5, 3) := dq_154 (a := 0) (b := 5) (fd_r fcX12_alternative (by decide +kernel)) rfl
theorem dX12_alternative_185 : decode cX12_alternative 185 = .ok (.iconst 1, 1) := dq_4 (fd_r fcX12_alternative (by decide +kernel))
theorem dX12_alternative_186 : decode cX12_alternative 186 = .ok (.ireturn, 1) := dq_172 (fd_r fcX12_alternative (by decide +kernel))
theorem dX12_alternative_187 : decode cX12_alternative 187 = .ok (.aload_n 0, 1) := dq_42 (fd_r fcX12_alternative (by decide +kernel))
theorem dX12_alternative_188 : decode cX12_alternative 188 = .ok (.bipush 40, 2) := dq_16 (a := 40) (fd_r fcX12_alternative (by decide +kernel)) rfl
theorem dX12_alternative_190 : decode cX12_alternative 190 = .ok (.invokevirtual 413, 3) := dq_182 (a := 1) (b := 157) (fd_r fcX12_alternative (by decide +kernel)) rfl
theorem dX12_alternative_193 : decode cX12_alternative 193 = .ok (.aload_n 0, 1) := dq_42 (fd_r fcX12_alternative (by decide +kernel))
theorem dX12_alternative_194 : decode cX12_alternative 194 = .ok (.getfield 36, 3) := dq_180 (a := 0) (b := 36) (fd_r fcX12_alternative (by decide +kernel)) rfl
theorem dX12_alternative_197 : decode cX12_alternative 197 = .ok (.ifCond .ne 9, 3) := dq_154 (a := 0) (b := 9) (fd_r fcX12_alternative (by decide +kernel)) rfl
theorem dX12_alternative_200 : decode cX12_alternative 200 = .ok (.aload_n 0, 1) := dq_42 (fd_r fcX12_alternative (by decide +kernel))
theorem dX12_alternative_201 : decode cX12_alternative 201 = .ok (.iload_n 2, 1) := dq_28 (fd_r fcX12_alternative (by decide +kernel))
theorem dX12_alternative_202 : decode cX12_alternative 202 = .ok (.iconst 0, 1) := dq_3 (fd_r fcX12_alternative (by decide +kernel))
theorem dX12_alternative_203 : decode cX12_alternative 203 = .ok (.invokevirtual 416, 3) := dq_182 (a := 1) (b := 160) (fd_r fcX12_alternative (by decide +kernel)) rfl
theorem dX12_alternative_206 : decode cX12_alternative 206 = .ok (.aload_n 0, 1) := dq_42 (fd_r fcX12_alternative (by decide +kernel))
theorem dX12_alternative_207 : decode cX12_alternative 207 = .ok (.getfield 36, 3) := dq_180 (a := 0) (b := 36) (fd_r fcX12_alternative (by decide +kernel)) rfl
theorem dX12_alternative_210 : decode cX12_alternative 210 = .ok (.ifCond .le 7, 3) := dq_158 (a := 0) (b := 7) (fd_r fcX12_alternative (by decide +kernel)) rfl
theorem dX12_alternative_213 : decode cX12_alternative 213 = .ok (.iconst 1, 1) := dq_4 (fd_r fcX12_alternative (by decide +kernel))
theorem dX12_alternative_214 : decode cX12_alternative 214 = .ok (.goto 4, 3) := dq_167 (a := 0) (b := 4) (fd_r fcX12_alternative (by decide +kernel)) rfl
theorem dX12_alternative_217 : decode cX12_alternative 217 = .ok (.iconst 0, 1) := dq_3 (fd_r fcX12_alternative (by decide +kernel))
theorem dX12_alternative_218 : decode cX12_alternative 218 = .ok (.ireturn, 1) := dq_172 (fd_r fcX12_alternative (by decide +kernel))
theorem dX12_goesOn_0 : decode cX12_goesOn 0 = .ok (.aload_n 0, 1) := dq_42 (fd_r fcX12_goesOn (by decide +kernel))
theorem dX12_goesOn_1 : decode cX12_goesOn 1 = .ok (.getfield 36, 3) := dq_180 (a := 0) (b := 36) (fd_r fcX12_goesOn (by decide +kernel)) rfl
theorem dX12_goesOn_4 : decode cX12_goesOn 4 = .ok (.ifCond .ne 188, 3) := dq_154 (a := 0) (b := 188) (fd_r fcX12_goesOn (by decide +kernel)) rfl
theorem dX12_goesOn_7 : decode cX12_goesOn 7 = .ok (.aload_n 0, 1) := dq_42 (fd_r fcX12_goesOn (by decide +kernel))
theorem dX12_goesOn_8 : decode cX12_goesOn 8 = .ok (.getfield 134, 3) := dq_180 (a := 0) (b := 134) (fd_r fcX12_goesOn (by decide +kernel)) rfl
theorem dX12_goesOn_11 : decode cX12_goesOn 11 = .ok (.aload_n 0, 1) := dq_42 (fd_r fcX12_goesOn (by decide +kernel))
theorem dX12_goesOn_12 : decode cX12_goesOn 12 = .ok (.getfield 143, 3) := dq_180 (a := 0) (b := 143) (fd_r fcX12_goesOn (by decide +kernel)) rfl
theorem dX12_goesOn_15 : decode cX12_goesOn 15 = .ok (.iaload, 1) := dq_46 (fd_r fcX12_goesOn (by decide +kernel))
theorem dX12_goesOn_16 : decode cX12_goesOn 16 = .ok (.ifCond .le 11, 3) := dq_158 (a := 0) (b := 11) (fd_r fcX12_goesOn (by decide +kernel)) rfl
theorem dX12_goesOn_19 : decode cX12_goesOn 19 = .ok (.aload_n 0, 1) := dq_42 (fd_r fcX12_goesOn (by decide +kernel))
theorem dX12_goesOn_20 : decode cX12_goesOn 20 = .ok (.bipush 6, 2) := dq_16 (a := 6) (fd_r fcX12_goesOn (by decide +kernel)) rfl
theorem dX12_goesOn_22 : decode cX12_goesOn 22 = .ok (.iconst 0, 1) := dq_3 (fd_r fcX12_goesOn (by decide +kernel))
theorem dX12_goesOn_23 : decode cX12_goesOn 23 = .ok (.iconst 0, 1) := dq_3 (fd_r fcX12_goesOn (by decide +kernel))
theorem dX12_goesOn_24 : decode cX12_goesOn 24 = .ok (.invokevirtual 400, 3) := dq_182 (a := 1) (b := 144) (fd_r fcX12_goesOn (by decide +kernel)) rfl
theorem dX12_goesOn_27 : decode cX12_goesOn 27 = .ok (.aload_n 0, 1) := dq_42 (fd_r fcX12_goesOn (by decide +kernel))
theorem dX12_goesOn_28 : decode cX12_goesOn 28 = .ok (.getfield 134, 3) := dq_180 (a := 0) (b := 134) (fd_r fcX12_goesOn (by decide +kernel)) rfl
theorem dX12_goesOn_31 : decode cX12_goesOn 31 = .ok (.aload_n 0, 1) := dq_42 (fd_r fcX12_goesOn (by decide +kernel))
theorem dX12_goesOn_32 : decode cX12_goesOn 32 = .ok (.getfield 143, 3) := dq_180 (a := 0) (b := 143) (fd_r fcX12_goesOn (by decide +kernel)) rfl
theorem dX12_goesOn_35 : decode cX12_goesOn 35 = .ok (.dup2, 1) := dq_92 (fd_r fcX12_goesOn (by decide +kernel))
theorem dX12_goesOn_36 : decode cX12_goesOn 36 = .ok (.iaload, 1) := dq_46 (fd_r fcX12_goesOn (by decide +kernel))
theorem dX12_goesOn_37 : decode cX12_goesOn 37 = .ok (.iconst 1, 1) := dq_4 (fd_r fcX12_goesOn (by decide +kernel))
theorem dX12_goesOn_38 : decode cX12_goesOn 38 = .ok (.iadd, 1) := dq_96 (fd_r fcX12_goesOn (by decide +kernel))
theorem dX12_goesOn_39 : decode cX12_goesOn 39 = .ok (.iastore, 1) := dq_79 (fd_r fcX12_goesOn (by decide +kernel))
theorem dX12_goesOn_40 : decode cX12_goesOn 40 = .ok (.aload_n 0, 1) := dq_42 (fd_r fcX12_goesOn (by decide +kernel))
theorem dX12_goesOn_41 : decode cX12_goesOn 41 = .ok (.invokevirtual 331, 3) := dq_182 (a := 1) (b := 75) (fd_r fcX12_goesOn (by decide +kernel)) rfl
theorem dX12_goesOn_44 : decode cX12_goesOn 44 = .ok (.aload_n 0, 1) := dq_42 (fd_r fcX12_goesOn (by decide +kernel))
theorem dX12_goesOn_45 : decode cX12_goesOn 45 = .ok (.getfield 36, 3) := dq_180 (a := 0) (b := 36) (fd_r fcX12_goesOn (by decide +kernel)) rfl
theorem dX12_goesOn_48 : decode cX12_goesOn 48 = .ok (.ifCond .le 5, 3) := dq_158 (a := 0) (b := 5) (fd_r fcX12_goesOn (by decide +kernel)) rfl
theorem dX12_goesOn_51 : decode cX12_goesOn 51 = .ok (.iconst 0, 1) := dq_3 (fd_r fcX12_goesOn (by decide +kernel))
theorem dX12_goesOn_52 : decode cX12_goesOn 52 = .ok (.ireturn, 1) := dq_172 (fd_r fcX12_goesOn (by decide +kernel))
theorem dX12_goesOn_53 : decode cX12_goesOn 53 = .ok (.aload_n 0, 1) := dq_42 (fd_r fcX12_goesOn (by decide +kernel))
theorem dX12_goesOn_54 : decode cX12_goesOn 54 = .ok (.ldc2_w 358, 3) := dq_20 (a := 1) (b := 102) (fd_r fcX12_goesOn (by decide +kernel)) rfl
theorem dX12_goesOn_57 : decode cX12_goesOn 57 = .ok (.invokevirtual 386, 3) := dq_182 (a := 1) (b := 130) (fd_r fcX12_goesOn (by decide +kernel)) rfl
theorem dX12_goesOn_60 : decode cX12_goesOn 60 = .ok (.ifCond .eq 9, 3) := dq_153 (a := 0) (b := 9) (fd_r fcX12_goesOn (by decide +kernel)) rfl
theorem dX12_goesOn_63 : decode cX12_goesOn 63 = .ok (.aload_n 0, 1) := dq_42 (fd_r fcX12_goesOn (by decide +kernel))
theorem dX12_goesOn_64 : decode cX12_goesOn 64 = .ok (.invokevirtual 337, 3) := dq_182 (a := 1) (b := 81) (fd_r fcX12_goesOn (by decide +kernel)) rfl
theorem dX12_goesOn_67 : decode cX12_goesOn 67 = .ok (.iconst 1, 1) := dq_4 (fd_r fcX12_goesOn (by decide +kernel))
theorem dX12_goesOn_68 : decode cX12_goesOn 68 = .ok (.ireturn, 1) := dq_172 (fd_r fcX12_goesOn (by decide +kernel))
theorem dX12_goesOn_69 : decode cX12_goesOn 69 = .ok (.aload_n 0, 1) := dq_42 (fd_r fcX12_goesOn (by decide +kernel))
theorem dX12_goesOn_70 : decode cX12_goesOn 70 = .ok (.dup, 1) := dq_89 (fd_r fcX12_goesOn (by decide +kernel))
theorem dX12_goesOn_71 : decode cX12_goesOn 71 = .ok (.getfield 143, 3) := dq_180 (a := 0) (b := 143) (fd_r fcX12_goesOn (by decide +kernel)) rfl
theorem dX12_goesOn_74 : decode cX12_goesOn 74 = .ok (.iconst 1, 1) := dq_4 (fd_r fcX12_goesOn (by decide +kernel))
theorem dX12_goesOn_75 : decode cX12_goesOn 75 = .ok (.isub, 1) := dq_100 (fd_r fcX12_goesOn (by decide +kernel))
theorem dX12_goesOn_76 : decode cX12_goesOn 76 = .ok (.putfield 143, 3) := dq_181 (a := 0) (b := 143) (fd_r fcX12_goesOn (by decide +kernel)) rfl
theorem dX12_goesOn_79 : decode cX12_goesOn 79 = .ok (.aload_n 0, 1) := dq_42 (fd_r fcX12_goesOn (by decide +kernel))
theorem dX12_goesOn_80 : decode cX12_goesOn 80 = .ok (.getfield 143, 3) := dq_180 (a := 0) (b := 143) (fd_r fcX12_goesOn (by decide +kernel)) rfl
theorem dX12_goesOn_83 : decode cX12_goesOn 83 = .ok (.iload_n 1, 1) := dq_27 (fd_r fcX12_goesOn (by decide +kernel))
theorem dX12_goesOn_84 : decode cX12_goesOn 84 = .ok (.if_icmp .ne 5, 3) := dq_160 (a := 0) (b := 5) (fd_r fcX12_goesOn (by decide +kernel)) rfl
theorem dX12_goesOn_87 : decode cX12_goesOn 87 = .ok (.iconst 0, 1) := dq_3 (fd_r fcX12_goesOn (by decide +kernel))
theorem dX12_goesOn_88 : decode cX12_goesOn 88 = .ok (.ireturn, 1) := dq_172 (fd_r fcX12_goesOn (by decide +kernel))
theorem dX12_goesOn_89 : decode cX12_goesOn 89 = .ok (.aload_n 0, 1) := dq_42 (fd_r fcX12_goesOn (by decide +kernel))
theorem dX12_goesOn_90 : decode cX12_goesOn 90 = .ok (.iconst 4, 1) := dq_7 (fd_r fcX12_goesOn (by decide +kernel))
theorem dX12_goesOn_91 : decode cX12_goesOn 91 = .ok (.iconst 0, 1) := dq_3 (fd_r fcX12_goesOn (by decide +kernel))
theorem dX12_goesOn_92 : decode cX12_goesOn 92 = .ok (.iconst 0, 1) := dq_3 (fd_r fcX12_goesOn (by decide +kernel))
theorem dX12_goesOn_93 : decode cX12_goesOn 93 = .ok (.invokevirtual 400, 3) := dq_182 (a := 1) (b := 144) (fd_r fcX12_goesOn (by decide +kernel)) rfl
theorem dX12_goesOn_96 : decode cX12_goesOn 96 = .ok (.aload_n 0, 1) := dq_42 (fd_r fcX12_goesOn (by decide +kernel))
theorem dX12_goesOn_97 : decode cX12_goesOn 97 = .ok (.iconst 5, 1) := dq_8 (fd_r fcX12_goesOn (by decide +kernel))
theorem dX12_goesOn_98 : decode cX12_goesOn 98 = .ok (.iconst 0, 1) := dq_3 (fd_r fcX12_goesOn (by decide +kernel))
theorem dX12_goesOn_99 : decode cX12_goesOn 99 = .ok (.iconst 0, 1) := dq_3 (fd_r fcX12_goesOn (by decide +kernel))
theorem dX12_goesOn_100 : decode cX12_goesOn 100 = .ok (.invokevirtual 400, 3) := dq_182 (a := 1) (b := 144) (fd_r fcX12_goesOn (by decide +kernel)) rfl
theorem dX12_goesOn_103 : decode cX12_goesOn 103 = .ok (.aload_n 0, 1) := dq_42 (fd_r fcX12_goesOn (by decide +kernel))
theorem dX12_goesOn_104 : decode cX12_goesOn 104 = .ok (.getfield 137, 3) := dq_180 (a := 0) (b := 137) (fd_r fcX12_goesOn (by decide +kernel)) rfl
theorem dX12_goesOn_107 : decode cX12_goesOn 107 = .ok (.aload_n 0, 1) := dq_42 (fd_r fcX12_goesOn (by decide +kernel))
theorem dX12_goesOn_108 : decode cX12_goesOn 108 = .ok (.getfield 143, 3) := dq_180 (a := 0) (b := 143) (fd_r fcX12_goesOn (by decide +kernel)) rfl
theorem dX12_goesOn_111 : decode cX12_goesOn 111 = .ok (.iaload, 1) := dq_46 (fd_r fcX12_goesOn (by decide +kernel))
theorem dX12_goesOn_112 : decode cX12_goesOn 112 = .ok (.istore_n 2, 1) := dq_61 (fd_r fcX12_goesOn (by decide +kernel))
theorem dX12_goesOn_113 : decode cX12_goesOn 113 = .ok (.aload_n 0, 1) := dq_42 (fd_r fcX12_goesOn (by decide +kernel))
theorem dX12_goesOn_114 : decode cX12_goesOn 114 = .ok (.getfield 140, 3) := dq_180 (a := 0) (b := 140) (fd_r fcX12_goesOn (by decide +kernel)) rfl
theorem dX12_goesOn_117 : decode cX12_goesOn 117 = .ok (.aload_n 0, 1) := dq_42 (fd_r fcX12_goesOn (by decide +kernel))
theorem dX12_goesOn_118 : decode cX12_goesOn 118 = .ok (.getfield 143, 3) := dq_180 (a := 0) (b := 143) (fd_r fcX12_goesOn (by decide +kernel)) rfl
theorem dX12_goesOn_121 : decode cX12_goesOn 121 = .ok (.iaload, 1) := dq_46 (fd_r fcX12_goesOn (by decide +kernel))
theorem dX12_goesOn_122 : decode cX12_goesOn 122 = .ok (.iconst 1, 1) := dq_4 (fd_r fcX12_goesOn (by decide +kernel))
theorem dX12_goesOn_123 : decode cX12_goesOn 123 = .ok (.iadd, 1) := dq_96 (fd_r fcX12_goesOn (by decide +kernel))
theorem dX12_goesOn_124 : decode cX12_goesOn 124 = .ok (.aload_n 0, 1) := dq_42 (fd_r fcX12_goesOn (by decide +kernel))
theorem dX12_goesOn_125 : decode cX12_goesOn 125 = .ok (.getfield 69, 3) := dq_180 (a := 0) (b := 69) (fd_r fcX12_goesOn (by decide +kernel)) rfl
theorem dX12_goesOn_128 : decode cX12_goesOn 128 = .ok (.bipush 24, 2) := dq_16 (a := 24) (fd_r fcX12_goesOn (by decide +kernel)) rfl
theorem dX12_goesOn_130 : decode cX12_goesOn 130 = .ok (.aload_n 0, 1) := dq_42 (fd_r fcX12_goesOn (by decide +kernel))
theorem dX12_goesOn_131 : decode cX12_goesOn 131 = .ok (.getfield 124, 3) := dq_180 (a := 0) (b := 124) (fd_r fcX12_goesOn (by decide +kernel)) rfl
theorem dX12_goesOn_134 : decode cX12_goesOn 134 = .ok (.imul, 1) := dq_104 (fd_r fcX12_goesOn (by decide +kernel))
theorem dX12_goesOn_135 : decode cX12_goesOn 135 = .ok (.iload_n 2, 1) := dq_28 (fd_r fcX12_goesOn (by decide +kernel))
theorem dX12_goesOn_136 : decode cX12_goesOn 136 = .ok (.iadd, 1) := dq_96 (fd_r fcX12_goesOn (by decide +kernel))
theorem dX12_goesOn_137 : decode cX12_goesOn 137 = .ok (.iaload, 1) := dq_46 (fd_r fcX12_goesOn (by decide +kernel))
theorem dX12_goesOn_138 : decode cX12_goesOn 138 = .ok (.if_icmp .ge 45, 3) := dq_162 (a := 0) (b := 45) (fd_r fcX12_goesOn (by decide +kernel)) rfl
theorem dX12_goesOn_141 : decode cX12_goesOn 141 = .ok (.aload_n 0, 1) := dq_42 (fd_r fcX12_goesOn (by decide +kernel))
theorem dX12_goesOn_142 : decode cX12_goesOn 142 = .ok (.bipush 44, 2) := dq_16 (a := 44) (fd_r fcX12_goesOn (by decide +kernel)) rfl
theorem dX12_goesOn_144 : decode cX12_goesOn 144 = .ok (.invokevirtual 413, 3) := dq_182 (a := 1) (b := 157) (fd_r fcX12_goesOn (by decide +kernel)) rfl
theorem dX12_goesOn_147 : decode cX12_goesOn 147 = .ok (.aload_n 0, 1) := dq_42 (fd_r fcX12_goesOn (by decide +kernel))
theorem dX12_goesOn_148 : decode cX12_goesOn 148 = .ok (.getfield 36, 3) := dq_180 (a := 0) (b := 36) (fd_r fcX12_goesOn (by decide +kernel)) rfl
theorem dX12_goesOn_151 : decode cX12_goesOn 151 = .ok (.ifCond .ne 19, 3) := dq_154 (a := 0) (b := 19) (fd_r fcX12_goesOn (by decide +kernel)) rfl
theorem dX12_goesOn_154 : decode cX12_goesOn 154 = .ok (.aload_n 0, 1) := dq_42 (fd_r fcX12_goesOn (by decide +kernel))
theorem dX12_goesOn_155 : decode cX12_goesOn 155 = .ok (.iload_n 2, 1) := dq_28 (fd_r fcX12_goesOn (by decide +kernel))
theorem dX12_goesOn_156 : decode cX12_goesOn 156 = .ok (.aload_n 0, 1) := dq_42 (fd_r fcX12_goesOn (by decide +kernel))
theorem dX12_goesOn_157 : decode cX12_goesOn 157 = .ok (.getfield 140, 3) := dq_180 (a := 0) (b := 140) (fd_r fcX12_goesOn (by decide +kernel)) rfl
theorem dX12_goesOn_160 : decode cX12_goesOn 160 = .ok (.aload_n 0, 1) := dq_42 (fd_r fcX12_goesOn (by decide +kernel))
theorem dX12_goesOn_161 : decode cX12_goesOn 161 = .ok (.getfield 143, 3) := dq_180 (a := 0) (b := 143) (fd_r fcX12_goesOn (by decide +kernel)) rfl
theorem dX12_goesOn_164 : decode cX12_goesOn 164 = .ok (.iaload, 1) := dq_46 (fd_r fcX12_goesOn (by decide +kernel))
theorem dX12_goesOn_165 : decode cX12_goesOn 165 = .ok (.iconst 1, 1) := dq_4 (fd_r fcX12_goesOn (by decide +kernel))
theorem dX12_goesOn_166 : decode cX12_goesOn 166 = .ok (.iadd, 1) := dq_96 (fd_r fcX12_goesOn (by decide +kernel))
theorem dX12_goesOn_167 : decode cX12_goesOn 167 = .ok (.invokevirtual 416, 3) := dq_182 (a := 1) (b := 160) (fd_r fcX12_goesOn (by decide +kernel)) rfl
theorem dX12_goesOn_170 : decode cX12_goesOn 170 = .ok (.aload_n 0, 1) := dq_42 (fd_r fcX12_goesOn (by decide +kernel))
theorem dX12_goesOn_171 : decode cX12_goesOn 171 = .ok (.getfield 36, 3) := dq_180 (a := 0) (b := 36) (fd_r fcX12_goesOn (by decide +kernel)) rfl
end
end
