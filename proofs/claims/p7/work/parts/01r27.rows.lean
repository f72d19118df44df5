section
theorem dX12_see_212 : decode cX12_see 212 = .ok (.goto (-75), 3) := by decide +kernel
theorem dX12_see_215 : decode cX12_see 215 = .ok (.aload_n 0, 1) := by decide +kernel
theorem dX12_see_216 : decode cX12_see 216 = .ok (.getfield 291, 3) := by decide +kernel
theorem dX12_see_219 : decode cX12_see 219 = .ok (.ireturn, 1) := by decide +kernel
theorem dX12_leaves_0 : decode cX12_leaves 0 = .ok (.aload_n 0, 1) := by decide +kernel
theorem dX12_leaves_1 : decode cX12_leaves 1 = .ok (.iconst 0, 1) := by decide +kernel
theorem dX12_leaves_2 : decode cX12_leaves 2 = .ok (.invokevirtual 501, 3) := by decide +kernel
theorem dX12_leaves_5 : decode cX12_leaves 5 = .ok (.iconst 0, 1) := by decide +kernel
theorem dX12_leaves_6 : decode cX12_leaves 6 = .ok (.istore_n 1, 1) := by decide +kernel
theorem dX12_leaves_7 : decode cX12_leaves 7 = .ok (.iconst 0, 1) := by decide +kernel
theorem dX12_leaves_8 : decode cX12_leaves 8 = .ok (.istore_n 2, 1) := by decide +kernel
theorem dX12_leaves_9 : decode cX12_leaves 9 = .ok (.iload_n 2, 1) := by decide +kernel
theorem dX12_leaves_10 : decode cX12_leaves 10 = .ok (.sipush 256, 3) := by decide +kernel
theorem dX12_leaves_13 : decode cX12_leaves 13 = .ok (.if_icmp .ge 27, 3) := by decide +kernel
theorem dX12_leaves_16 : decode cX12_leaves 16 = .ok (.aload_n 0, 1) := by decide +kernel
theorem dX12_leaves_17 : decode cX12_leaves 17 = .ok (.getfield 300, 3) := by decide +kernel
theorem dX12_leaves_20 : decode cX12_leaves 20 = .ok (.iload_n 2, 1) := by decide +kernel
theorem dX12_leaves_21 : decode cX12_leaves 21 = .ok (.iconst 1, 1) := by decide +kernel
theorem dX12_leaves_22 : decode cX12_leaves 22 = .ok (.iastore, 1) := by decide +kernel
theorem dX12_leaves_23 : decode cX12_leaves 23 = .ok (.aload_n 0, 1) := by decide +kernel
theorem dX12_leaves_24 : decode cX12_leaves 24 = .ok (.getfield 303, 3) := by decide +kernel
theorem dX12_leaves_27 : decode cX12_leaves 27 = .ok (.iload_n 2, 1) := by decide +kernel
theorem dX12_leaves_28 : decode cX12_leaves 28 = .ok (.aload_n 0, 1) := by decide +kernel
theorem dX12_leaves_29 : decode cX12_leaves 29 = .ok (.iload_n 2, 1) := by decide +kernel
theorem dX12_leaves_30 : decode cX12_leaves 30 = .ok (.invokevirtual 492, 3) := by decide +kernel
theorem dX12_leaves_33 : decode cX12_leaves 33 = .ok (.iastore, 1) := by decide +kernel
theorem dX12_leaves_34 : decode cX12_leaves 34 = .ok (.iinc 2 1, 3) := by decide +kernel
theorem dX12_leaves_37 : decode cX12_leaves 37 = .ok (.goto (-28), 3) := by decide +kernel
theorem dX12_leaves_40 : decode cX12_leaves 40 = .ok (.iconst 0, 1) := by decide +kernel
theorem dX12_leaves_41 : decode cX12_leaves 41 = .ok (.istore_n 2, 1) := by decide +kernel
theorem dX12_leaves_42 : decode cX12_leaves 42 = .ok (.iload_n 2, 1) := by decide +kernel
theorem dX12_leaves_43 : decode cX12_leaves 43 = .ok (.aload_n 0, 1) := by decide +kernel
theorem dX12_leaves_44 : decode cX12_leaves 44 = .ok (.getfield 291, 3) := by decide +kernel
theorem dX12_leaves_47 : decode cX12_leaves 47 = .ok (.if_icmp .ge 66, 3) := by decide +kernel
theorem dX12_leaves_50 : decode cX12_leaves 50 = .ok (.aload_n 0, 1) := by decide +kernel
theorem dX12_leaves_51 : decode cX12_leaves 51 = .ok (.aload_n 0, 1) := by decide +kernel
theorem dX12_leaves_52 : decode cX12_leaves 52 = .ok (.getfield 294, 3) := by decide +kernel
theorem dX12_leaves_55 : decode cX12_leaves 55 = .ok (.iload_n 2, 1) := by decide +kernel
theorem dX12_leaves_56 : decode cX12_leaves 56 = .ok (.iaload, 1) := by decide +kernel
theorem dX12_leaves_57 : decode cX12_leaves 57 = .ok (.invokevirtual 484, 3) := by decide +kernel
theorem dX12_leaves_60 : decode cX12_leaves 60 = .ok (.istore_n 3, 1) := by decide +kernel
theorem dX12_leaves_61 : decode cX12_leaves 61 = .ok (.iconst 0, 1) := by decide +kernel
theorem dX12_leaves_62 : decode cX12_leaves 62 = .ok (.istore 4, 2) := by decide +kernel
theorem dX12_leaves_64 : decode cX12_leaves 64 = .ok (.iload 4, 2) := by decide +kernel
theorem dX12_leaves_66 : decode cX12_leaves 66 = .ok (.sipush 256, 3) := by decide +kernel
theorem dX12_leaves_69 : decode cX12_leaves 69 = .ok (.if_icmp .ge 38, 3) := by decide +kernel
theorem dX12_leaves_72 : decode cX12_leaves 72 = .ok (.iload_n 3, 1) := by decide +kernel
theorem dX12_leaves_73 : decode cX12_leaves 73 = .ok (.aload_n 0, 1) := by decide +kernel
theorem dX12_leaves_74 : decode cX12_leaves 74 = .ok (.getfield 303, 3) := by decide +kernel
theorem dX12_leaves_77 : decode cX12_leaves 77 = .ok (.iload 4, 2) := by decide +kernel
theorem dX12_leaves_79 : decode cX12_leaves 79 = .ok (.iaload, 1) := by decide +kernel
theorem dX12_leaves_80 : decode cX12_leaves 80 = .ok (.iand, 1) := by decide +kernel
theorem dX12_leaves_81 : decode cX12_leaves 81 = .ok (.invokestatic 495, 3) := by decide +kernel
theorem dX12_leaves_84 : decode cX12_leaves 84 = .ok (.aload_n 0, 1) := by decide +kernel
theorem dX12_leaves_85 : decode cX12_leaves 85 = .ok (.getfield 297, 3) := by decide +kernel
theorem dX12_leaves_88 : decode cX12_leaves 88 = .ok (.iload_n 2, 1) := by decide +kernel
theorem dX12_leaves_89 : decode cX12_leaves 89 = .ok (.iaload, 1) := by decide +kernel
theorem dX12_leaves_90 : decode cX12_leaves 90 = .ok (.if_icmp .eq 11, 3) := by decide +kernel
theorem dX12_leaves_93 : decode cX12_leaves 93 = .ok (.aload_n 0, 1) := by decide +kernel
theorem dX12_leaves_94 : decode cX12_leaves 94 = .ok (.getfield 300, 3) := by decide +kernel
theorem dX12_leaves_97 : decode cX12_leaves 97 = .ok (.iload 4, 2) := by decide +kernel
theorem dX12_leaves_99 : decode cX12_leaves 99 = .ok (.iconst 0, 1) := by decide +kernel
theorem dX12_leaves_100 : decode cX12_leaves 100 = .ok (.iastore, 1) := by decide +kernel
theorem dX12_leaves_101 : decode cX12_leaves 101 = .ok (.iinc 4 1, 3) := by decide +kernel
theorem dX12_leaves_104 : decode cX12_leaves 104 = .ok (.goto (-40), 3) := by decide +kernel
theorem dX12_leaves_107 : decode cX12_leaves 107 = .ok (.iinc 2 1, 3) := by decide +kernel
theorem dX12_leaves_110 : decode cX12_leaves 110 = .ok (.goto (-68), 3) := by decide +kernel
theorem dX12_leaves_113 : decode cX12_leaves 113 = .ok (.iconst 0, 1) := by decide +kernel
theorem dX12_leaves_114 : decode cX12_leaves 114 = .ok (.istore_n 2, 1) := by decide +kernel
theorem dX12_leaves_115 : decode cX12_leaves 115 = .ok (.iload_n 2, 1) := by decide +kernel
theorem dX12_leaves_116 : decode cX12_leaves 116 = .ok (.sipush 256, 3) := by decide +kernel
theorem dX12_leaves_119 : decode cX12_leaves 119 = .ok (.if_icmp .ge 18, 3) := by decide +kernel
theorem dX12_leaves_122 : decode cX12_leaves 122 = .ok (.iload_n 1, 1) := by decide +kernel
theorem dX12_leaves_123 : decode cX12_leaves 123 = .ok (.aload_n 0, 1) := by decide +kernel
theorem dX12_leaves_124 : decode cX12_leaves 124 = .ok (.getfield 300, 3) := by decide +kernel
theorem dX12_leaves_127 : decode cX12_leaves 127 = .ok (.iload_n 2, 1) := by decide +kernel
theorem dX12_leaves_128 : decode cX12_leaves 128 = .ok (.iaload, 1) := by decide +kernel
theorem dX12_leaves_129 : decode cX12_leaves 129 = .ok (.iadd, 1) := by decide +kernel
theorem dX12_leaves_130 : decode cX12_leaves 130 = .ok (.istore_n 1, 1) := by decide +kernel
theorem dX12_leaves_131 : decode cX12_leaves 131 = .ok (.iinc 2 1, 3) := by decide +kernel
theorem dX12_leaves_134 : decode cX12_leaves 134 = .ok (.goto (-19), 3) := by decide +kernel
theorem dX12_leaves_137 : decode cX12_leaves 137 = .ok (.iload_n 1, 1) := by decide +kernel
theorem dX12_leaves_138 : decode cX12_leaves 138 = .ok (.ireturn, 1) := by decide +kernel
theorem dX12_sets_0 : decode cX12_sets 0 = .ok (.aload_n 0, 1) := by decide +kernel
theorem dX12_sets_1 : decode cX12_sets 1 = .ok (.getfield 146, 3) := by decide +kernel
theorem dX12_sets_4 : decode cX12_sets 4 = .ok (.ifCond .eq 8, 3) := by decide +kernel
theorem dX12_sets_7 : decode cX12_sets 7 = .ok (.iload_n 1, 1) := by decide +kernel
theorem dX12_sets_8 : decode cX12_sets 8 = .ok (.iconst (-1), 1) := by decide +kernel
theorem dX12_sets_9 : decode cX12_sets 9 = .ok (.if_icmp .ge 5, 3) := by decide +kernel
theorem dX12_sets_12 : decode cX12_sets 12 = .ok (.iconst (-1), 1) := by decide +kernel
theorem dX12_sets_13 : decode cX12_sets 13 = .ok (.ireturn, 1) := by decide +kernel
theorem dX12_sets_14 : decode cX12_sets 14 = .ok (.aload_n 0, 1) := by decide +kernel
theorem dX12_sets_15 : decode cX12_sets 15 = .ok (.invokevirtual 621, 3) := by decide +kernel
theorem dX12_sets_18 : decode cX12_sets 18 = .ok (.istore_n 2, 1) := by decide +kernel
theorem dX12_sets_19 : decode cX12_sets 19 = .ok (.iload_n 1, 1) := by decide +kernel
theorem dX12_sets_20 : decode cX12_sets 20 = .ok (.iconst (-1), 1) := by decide +kernel
theorem dX12_sets_21 : decode cX12_sets 21 = .ok (.if_icmp .ne 5, 3) := by decide +kernel
theorem dX12_sets_24 : decode cX12_sets 24 = .ok (.iload_n 2, 1) := by decide +kernel
theorem dX12_sets_25 : decode cX12_sets 25 = .ok (.ireturn, 1) := by decide +kernel
theorem dX12_sets_26 : decode cX12_sets 26 = .ok (.iconst 0, 1) := by decide +kernel
theorem dX12_sets_27 : decode cX12_sets 27 = .ok (.istore_n 3, 1) := by decide +kernel
theorem dX12_sets_28 : decode cX12_sets 28 = .ok (.iconst 0, 1) := by decide +kernel
theorem dX12_sets_29 : decode cX12_sets 29 = .ok (.istore 4, 2) := by decide +kernel
theorem dX12_sets_31 : decode cX12_sets 31 = .ok (.iload 4, 2) := by decide +kernel
theorem dX12_sets_33 : decode cX12_sets 33 = .ok (.sipush 256, 3) := by decide +kernel
theorem dX12_sets_36 : decode cX12_sets 36 = .ok (.if_icmp .ge 38, 3) := by decide +kernel
theorem dX12_sets_39 : decode cX12_sets 39 = .ok (.aload_n 0, 1) := by decide +kernel
theorem dX12_sets_40 : decode cX12_sets 40 = .ok (.getfield 300, 3) := by decide +kernel
theorem dX12_sets_43 : decode cX12_sets 43 = .ok (.iload 4, 2) := by decide +kernel
theorem dX12_sets_45 : decode cX12_sets 45 = .ok (.iaload, 1) := by decide +kernel
theorem dX12_sets_46 : decode cX12_sets 46 = .ok (.iconst 1, 1) := by decide +kernel
theorem dX12_sets_47 : decode cX12_sets 47 = .ok (.if_icmp .ne 11, 3) := by decide +kernel
theorem dX12_sets_50 : decode cX12_sets 50 = .ok (.iload_n 3, 1) := by decide +kernel
theorem dX12_sets_51 : decode cX12_sets 51 = .ok (.iload_n 1, 1) := by decide +kernel
theorem dX12_sets_52 : decode cX12_sets 52 = .ok (.if_icmp .ne 6, 3) := by decide +kernel
theorem dX12_sets_55 : decode cX12_sets 55 = .ok (.iload 4, 2) := by decide +kernel
theorem dX12_sets_57 : decode cX12_sets 57 = .ok (.ireturn, 1) := by decide +kernel
theorem dX12_sets_58 : decode cX12_sets 58 = .ok (.iload_n 3, 1) := by decide +kernel
theorem dX12_sets_59 : decode cX12_sets 59 = .ok (.aload_n 0, 1) := by decide +kernel
theorem dX12_sets_60 : decode cX12_sets 60 = .ok (.getfield 300, 3) := by decide +kernel
theorem dX12_sets_63 : decode cX12_sets 63 = .ok (.iload 4, 2) := by decide +kernel
theorem dX12_sets_65 : decode cX12_sets 65 = .ok (.iaload, 1) := by decide +kernel
theorem dX12_sets_66 : decode cX12_sets 66 = .ok (.iadd, 1) := by decide +kernel
theorem dX12_sets_67 : decode cX12_sets 67 = .ok (.istore_n 3, 1) := by decide +kernel
theorem dX12_sets_68 : decode cX12_sets 68 = .ok (.iinc 4 1, 3) := by decide +kernel
theorem dX12_sets_71 : decode cX12_sets 71 = .ok (.goto (-40), 3) := by decide +kernel
theorem dX12_sets_74 : decode cX12_sets 74 = .ok (.iconst (-1), 1) := by decide +kernel
theorem dX12_sets_75 : decode cX12_sets 75 = .ok (.ireturn, 1) := by decide +kernel
theorem dX12_mostBy_0 : decode cX12_mostBy 0 = .ok (.aload_n 0, 1) := by decide +kernel
theorem dX12_mostBy_1 : decode cX12_mostBy 1 = .ok (.iload_n 1, 1) := by decide +kernel
theorem dX12_mostBy_2 : decode cX12_mostBy 2 = .ok (.invokevirtual 484, 3) := by decide +kernel
theorem dX12_mostBy_5 : decode cX12_mostBy 5 = .ok (.istore_n 2, 1) := by decide +kernel
theorem dX12_mostBy_6 : decode cX12_mostBy 6 = .ok (.iconst 0, 1) := by decide +kernel
theorem dX12_mostBy_7 : decode cX12_mostBy 7 = .ok (.istore_n 3, 1) := by decide +kernel
theorem dX12_mostBy_8 : decode cX12_mostBy 8 = .ok (.iload_n 3, 1) := by decide +kernel
theorem dX12_mostBy_9 : decode cX12_mostBy 9 = .ok (.bipush 12, 2) := by decide +kernel
theorem dX12_mostBy_11 : decode cX12_mostBy 11 = .ok (.if_icmp .gt 16, 3) := by decide +kernel
theorem dX12_mostBy_14 : decode cX12_mostBy 14 = .ok (.aload_n 0, 1) := by decide +kernel
theorem dX12_mostBy_15 : decode cX12_mostBy 15 = .ok (.getfield 306, 3) := by decide +kernel
theorem dX12_mostBy_18 : decode cX12_mostBy 18 = .ok (.iload_n 3, 1) := by decide +kernel
theorem dX12_mostBy_19 : decode cX12_mostBy 19 = .ok (.iconst 0, 1) := by decide +kernel
theorem dX12_mostBy_20 : decode cX12_mostBy 20 = .ok (.iastore, 1) := by decide +kernel
theorem dX12_mostBy_21 : decode cX12_mostBy 21 = .ok (.iinc 3 1, 3) := by decide +kernel
theorem dX12_mostBy_24 : decode cX12_mostBy 24 = .ok (.goto (-16), 3) := by decide +kernel
theorem dX12_mostBy_27 : decode cX12_mostBy 27 = .ok (.iconst 0, 1) := by decide +kernel
theorem dX12_mostBy_28 : decode cX12_mostBy 28 = .ok (.istore_n 3, 1) := by decide +kernel
theorem dX12_mostBy_29 : decode cX12_mostBy 29 = .ok (.iconst 0, 1) := by decide +kernel
theorem dX12_mostBy_30 : decode cX12_mostBy 30 = .ok (.istore 4, 2) := by decide +kernel
theorem dX12_mostBy_32 : decode cX12_mostBy 32 = .ok (.iload 4, 2) := by decide +kernel
theorem dX12_mostBy_34 : decode cX12_mostBy 34 = .ok (.sipush 256, 3) := by decide +kernel
theorem dX12_mostBy_37 : decode cX12_mostBy 37 = .ok (.if_icmp .ge 72, 3) := by decide +kernel
theorem dX12_mostBy_40 : decode cX12_mostBy 40 = .ok (.aload_n 0, 1) := by decide +kernel
theorem dX12_mostBy_41 : decode cX12_mostBy 41 = .ok (.getfield 300, 3) := by decide +kernel
theorem dX12_mostBy_44 : decode cX12_mostBy 44 = .ok (.iload 4, 2) := by decide +kernel
theorem dX12_mostBy_46 : decode cX12_mostBy 46 = .ok (.iaload, 1) := by decide +kernel
theorem dX12_mostBy_47 : decode cX12_mostBy 47 = .ok (.ifCond .ne 6, 3) := by decide +kernel
theorem dX12_mostBy_50 : decode cX12_mostBy 50 = .ok (.goto 53, 3) := by decide +kernel
theorem dX12_mostBy_53 : decode cX12_mostBy 53 = .ok (.iload_n 2, 1) := by decide +kernel
theorem dX12_mostBy_54 : decode cX12_mostBy 54 = .ok (.aload_n 0, 1) := by decide +kernel
theorem dX12_mostBy_55 : decode cX12_mostBy 55 = .ok (.getfield 303, 3) := by decide +kernel
theorem dX12_mostBy_58 : decode cX12_mostBy 58 = .ok (.iload 4, 2) := by decide +kernel
theorem dX12_mostBy_60 : decode cX12_mostBy 60 = .ok (.iaload, 1) := by decide +kernel
theorem dX12_mostBy_61 : decode cX12_mostBy 61 = .ok (.iand, 1) := by decide +kernel
theorem dX12_mostBy_62 : decode cX12_mostBy 62 = .ok (.invokestatic 495, 3) := by decide +kernel
theorem dX12_mostBy_65 : decode cX12_mostBy 65 = .ok (.iconst 1, 1) := by decide +kernel
theorem dX12_mostBy_66 : decode cX12_mostBy 66 = .ok (.iadd, 1) := by decide +kernel
theorem dX12_mostBy_67 : decode cX12_mostBy 67 = .ok (.istore 5, 2) := by decide +kernel
theorem dX12_mostBy_69 : decode cX12_mostBy 69 = .ok (.aload_n 0, 1) := by decide +kernel
theorem dX12_mostBy_70 : decode cX12_mostBy 70 = .ok (.getfield 306, 3) := by decide +kernel
theorem dX12_mostBy_73 : decode cX12_mostBy 73 = .ok (.iload 5, 2) := by decide +kernel
theorem dX12_mostBy_75 : decode cX12_mostBy 75 = .ok (.dup2, 1) := by decide +kernel
theorem dX12_mostBy_76 : decode cX12_mostBy 76 = .ok (.iaload, 1) := by decide +kernel
theorem dX12_mostBy_77 : decode cX12_mostBy 77 = .ok (.iconst 1, 1) := by decide +kernel
theorem dX12_mostBy_78 : decode cX12_mostBy 78 = .ok (.iadd, 1) := by decide +kernel
theorem dX12_mostBy_79 : decode cX12_mostBy 79 = .ok (.iastore, 1) := by decide +kernel
theorem dX12_mostBy_80 : decode cX12_mostBy 80 = .ok (.aload_n 0, 1) := by decide +kernel
theorem dX12_mostBy_81 : decode cX12_mostBy 81 = .ok (.getfield 306, 3) := by decide +kernel
theorem dX12_mostBy_84 : decode cX12_mostBy 84 = .ok (.iload 5, 2) := by decide +kernel
theorem dX12_mostBy_86 : decode cX12_mostBy 86 = .ok (.iaload, 1) := by decide +kernel
theorem dX12_mostBy_87 : decode cX12_mostBy 87 = .ok (.iload_n 3, 1) := by decide +kernel
theorem dX12_mostBy_88 : decode cX12_mostBy 88 = .ok (.if_icmp .le 13, 3) := by decide +kernel
theorem dX12_mostBy_91 : decode cX12_mostBy 91 = .ok (.aload_n 0, 1) := by decide +kernel
theorem dX12_mostBy_92 : decode cX12_mostBy 92 = .ok (.getfield 306, 3) := by decide +kernel
theorem dX12_mostBy_95 : decode cX12_mostBy 95 = .ok (.iload 5, 2) := by decide +kernel
theorem dX12_mostBy_97 : decode cX12_mostBy 97 = .ok (.iaload, 1) := by decide +kernel
theorem dX12_mostBy_98 : decode cX12_mostBy 98 = .ok (.goto 4, 3) := by decide +kernel
theorem dX12_mostBy_101 : decode cX12_mostBy 101 = .ok (.iload_n 3, 1) := by decide +kernel
theorem dX12_mostBy_102 : decode cX12_mostBy 102 = .ok (.istore_n 3, 1) := by decide +kernel
theorem dX12_mostBy_103 : decode cX12_mostBy 103 = .ok (.iinc 4 1, 3) := by decide +kernel
theorem dX12_mostBy_106 : decode cX12_mostBy 106 = .ok (.goto (-74), 3) := by decide +kernel
theorem dX12_mostBy_109 : decode cX12_mostBy 109 = .ok (.iload_n 3, 1) := by decide +kernel
theorem dX12_mostBy_110 : decode cX12_mostBy 110 = .ok (.ireturn, 1) := by decide +kernel
theorem dX12_tells_0 : decode cX12_tells 0 = .ok (.aload_n 0, 1) := by decide +kernel
theorem dX12_tells_1 : decode cX12_tells 1 = .ok (.getfield 146, 3) := by decide +kernel
theorem dX12_tells_4 : decode cX12_tells 4 = .ok (.ifCond .eq 12, 3) := by decide +kernel
theorem dX12_tells_7 : decode cX12_tells 7 = .ok (.iload_n 1, 1) := by decide +kernel
theorem dX12_tells_8 : decode cX12_tells 8 = .ok (.iconst 0, 1) := by decide +kernel
theorem dX12_tells_9 : decode cX12_tells 9 = .ok (.iconst 1, 1) := by decide +kernel
theorem dX12_tells_10 : decode cX12_tells 10 = .ok (.invokestatic 362, 3) := by decide +kernel
theorem dX12_tells_13 : decode cX12_tells 13 = .ok (.ifCond .ne 5, 3) := by decide +kernel
theorem dX12_tells_16 : decode cX12_tells 16 = .ok (.iconst (-1), 1) := by decide +kernel
theorem dX12_tells_17 : decode cX12_tells 17 = .ok (.ireturn, 1) := by decide +kernel
theorem dX12_tells_18 : decode cX12_tells 18 = .ok (.aload_n 0, 1) := by decide +kernel
theorem dX12_tells_19 : decode cX12_tells 19 = .ok (.invokevirtual 621, 3) := by decide +kernel
theorem dX12_tells_22 : decode cX12_tells 22 = .ok (.istore_n 2, 1) := by decide +kernel
theorem dX12_tells_23 : decode cX12_tells 23 = .ok (.iconst (-1), 1) := by decide +kernel
theorem dX12_tells_24 : decode cX12_tells 24 = .ok (.istore_n 3, 1) := by decide +kernel
theorem dX12_tells_25 : decode cX12_tells 25 = .ok (.ldc_w 624, 3) := by decide +kernel
theorem dX12_tells_28 : decode cX12_tells 28 = .ok (.istore 4, 2) := by decide +kernel
theorem dX12_tells_30 : decode cX12_tells 30 = .ok (.iconst 0, 1) := by decide +kernel
theorem dX12_tells_31 : decode cX12_tells 31 = .ok (.istore 5, 2) := by decide +kernel
theorem dX12_tells_33 : decode cX12_tells 33 = .ok (.iload 5, 2) := by decide +kernel
theorem dX12_tells_35 : decode cX12_tells 35 = .ok (.aload_n 0, 1) := by decide +kernel
theorem dX12_tells_36 : decode cX12_tells 36 = .ok (.getfield 170, 3) := by decide +kernel
theorem dX12_tells_39 : decode cX12_tells 39 = .ok (.if_icmp .ge 46, 3) := by decide +kernel
theorem dX12_tells_42 : decode cX12_tells 42 = .ok (.iload 5, 2) := by decide +kernel
theorem dX12_tells_44 : decode cX12_tells 44 = .ok (.sipush 1000, 3) := by decide +kernel
theorem dX12_tells_47 : decode cX12_tells 47 = .ok (.if_icmp .ge 38, 3) := by decide +kernel
theorem dX12_tells_50 : decode cX12_tells 50 = .ok (.iload_n 2, 1) := by decide +kernel
theorem dX12_tells_51 : decode cX12_tells 51 = .ok (.ifCond .le 34, 3) := by decide +kernel
theorem dX12_tells_54 : decode cX12_tells 54 = .ok (.aload_n 0, 1) := by decide +kernel
theorem dX12_tells_55 : decode cX12_tells 55 = .ok (.iload 5, 2) := by decide +kernel
theorem dX12_tells_57 : decode cX12_tells 57 = .ok (.invokevirtual 625, 3) := by decide +kernel
theorem dX12_tells_60 : decode cX12_tells 60 = .ok (.istore 6, 2) := by decide +kernel
theorem dX12_tells_62 : decode cX12_tells 62 = .ok (.iload 6, 2) := by decide +kernel
theorem dX12_tells_64 : decode cX12_tells 64 = .ok (.iload 4, 2) := by decide +kernel
theorem dX12_tells_66 : decode cX12_tells 66 = .ok (.if_icmp .lt 6, 3) := by decide +kernel
theorem dX12_tells_69 : decode cX12_tells 69 = .ok (.goto 10, 3) := by decide +kernel
theorem dX12_tells_72 : decode cX12_tells 72 = .ok (.iload 6, 2) := by decide +kernel
theorem dX12_tells_74 : decode cX12_tells 74 = .ok (.istore 4, 2) := by decide +kernel
theorem dX12_tells_76 : decode cX12_tells 76 = .ok (.iload 5, 2) := by decide +kernel
theorem dX12_tells_78 : decode cX12_tells 78 = .ok (.istore_n 3, 1) := by decide +kernel
theorem dX12_tells_79 : decode cX12_tells 79 = .ok (.iinc 5 1, 3) := by decide +kernel
theorem dX12_tells_82 : decode cX12_tells 82 = .ok (.goto (-49), 3) := by decide +kernel
theorem dX12_tells_85 : decode cX12_tells 85 = .ok (.iload_n 3, 1) := by decide +kernel
theorem dX12_tells_86 : decode cX12_tells 86 = .ok (.iconst (-1), 1) := by decide +kernel
theorem dX12_tells_87 : decode cX12_tells 87 = .ok (.if_icmp .eq 7, 3) := by decide +kernel
theorem dX12_tells_90 : decode cX12_tells 90 = .ok (.iload_n 1, 1) := by decide +kernel
theorem dX12_tells_91 : decode cX12_tells 91 = .ok (.ifCond .ne 7, 3) := by decide +kernel
theorem dX12_tells_94 : decode cX12_tells 94 = .ok (.iload_n 3, 1) := by decide +kernel
theorem dX12_tells_95 : decode cX12_tells 95 = .ok (.goto 5, 3) := by decide +kernel
theorem dX12_tells_98 : decode cX12_tells 98 = .ok (.iload 4, 2) := by decide +kernel
theorem dX12_tells_100 : decode cX12_tells 100 = .ok (.ireturn, 1) := by decide +kernel
theorem dX12_runs_0 : decode cX12_runs 0 = .ok (.aload_n 0, 1) := by decide +kernel
theorem dX12_runs_1 : decode cX12_runs 1 = .ok (.iconst 0, 1) := by decide +kernel
theorem dX12_runs_2 : decode cX12_runs 2 = .ok (.aload_n 0, 1) := by decide +kernel
theorem dX12_runs_3 : decode cX12_runs 3 = .ok (.getfield 182, 3) := by decide +kernel
theorem dX12_runs_6 : decode cX12_runs 6 = .ok (.iconst 0, 1) := by decide +kernel
theorem dX12_runs_7 : decode cX12_runs 7 = .ok (.iaload, 1) := by decide +kernel
theorem dX12_runs_8 : decode cX12_runs 8 = .ok (.invokevirtual 581, 3) := by decide +kernel
theorem dX12_runs_11 : decode cX12_runs 11 = .ok (.aload_n 0, 1) := by decide +kernel
theorem dX12_runs_12 : decode cX12_runs 12 = .ok (.aload_n 0, 1) := by decide +kernel
theorem dX12_runs_13 : decode cX12_runs 13 = .ok (.getfield 179, 3) := by decide +kernel
theorem dX12_runs_16 : decode cX12_runs 16 = .ok (.iconst 0, 1) := by decide +kernel
theorem dX12_runs_17 : decode cX12_runs 17 = .ok (.iaload, 1) := by decide +kernel
theorem dX12_runs_18 : decode cX12_runs 18 = .ok (.invokevirtual 492, 3) := by decide +kernel
theorem dX12_runs_21 : decode cX12_runs 21 = .ok (.istore_n 2, 1) := by decide +kernel
theorem dX12_runs_22 : decode cX12_runs 22 = .ok (.aload_n 0, 1) := by decide +kernel
theorem dX12_runs_23 : decode cX12_runs 23 = .ok (.iload_n 1, 1) := by decide +kernel
theorem dX12_runs_24 : decode cX12_runs 24 = .ok (.invokevirtual 484, 3) := by decide +kernel
theorem dX12_runs_27 : decode cX12_runs 27 = .ok (.iload_n 2, 1) := by decide +kernel
theorem dX12_runs_28 : decode cX12_runs 28 = .ok (.iand, 1) := by decide +kernel
theorem dX12_runs_29 : decode cX12_runs 29 = .ok (.invokestatic 495, 3) := by decide +kernel
theorem dX12_runs_32 : decode cX12_runs 32 = .ok (.istore_n 3, 1) := by decide +kernel
theorem dX12_runs_33 : decode cX12_runs 33 = .ok (.aload_n 0, 1) := by decide +kernel
theorem dX12_runs_34 : decode cX12_runs 34 = .ok (.iload_n 1, 1) := by decide +kernel
theorem dX12_runs_35 : decode cX12_runs 35 = .ok (.iload_n 2, 1) := by decide +kernel
theorem dX12_runs_36 : decode cX12_runs 36 = .ok (.invokevirtual 571, 3) := by decide +kernel
theorem dX12_runs_39 : decode cX12_runs 39 = .ok (.istore 4, 2) := by decide +kernel
theorem dX12_runs_41 : decode cX12_runs 41 = .ok (.aload_n 0, 1) := by decide +kernel
theorem dX12_runs_42 : decode cX12_runs 42 = .ok (.getfield 185, 3) := by decide +kernel
theorem dX12_runs_45 : decode cX12_runs 45 = .ok (.iconst 0, 1) := by decide +kernel
theorem dX12_runs_46 : decode cX12_runs 46 = .ok (.iaload, 1) := by decide +kernel
theorem dX12_runs_47 : decode cX12_runs 47 = .ok (.bipush 40, 2) := by decide +kernel
theorem dX12_runs_49 : decode cX12_runs 49 = .ok (.if_icmp .ne 45, 3) := by decide +kernel
theorem dX12_runs_52 : decode cX12_runs 52 = .ok (.iconst 0, 1) := by decide +kernel
theorem dX12_runs_53 : decode cX12_runs 53 = .ok (.istore 5, 2) := by decide +kernel
theorem dX12_runs_55 : decode cX12_runs 55 = .ok (.iload 5, 2) := by decide +kernel
theorem dX12_runs_57 : decode cX12_runs 57 = .ok (.bipush 117, 2) := by decide +kernel
theorem dX12_runs_59 : decode cX12_runs 59 = .ok (.if_icmp .ge 25, 3) := by decide +kernel
theorem dX12_runs_62 : decode cX12_runs 62 = .ok (.aload_n 0, 1) := by decide +kernel
theorem dX12_runs_63 : decode cX12_runs 63 = .ok (.getfield 188, 3) := by decide +kernel
theorem dX12_runs_66 : decode cX12_runs 66 = .ok (.iload 5, 2) := by decide +kernel
theorem dX12_runs_68 : decode cX12_runs 68 = .ok (.aload_n 0, 1) := by decide +kernel
theorem dX12_runs_69 : decode cX12_runs 69 = .ok (.getfield 188, 3) := by decide +kernel
theorem dX12_runs_72 : decode cX12_runs 72 = .ok (.iload 5, 2) := by decide +kernel
theorem dX12_runs_74 : decode cX12_runs 74 = .ok (.iconst 3, 1) := by decide +kernel
theorem dX12_runs_75 : decode cX12_runs 75 = .ok (.iadd, 1) := by decide +kernel
theorem dX12_runs_76 : decode cX12_runs 76 = .ok (.iaload, 1) := by decide +kernel
theorem dX12_runs_77 : decode cX12_runs 77 = .ok (.iastore, 1) := by decide +kernel
theorem dX12_runs_78 : decode cX12_runs 78 = .ok (.iinc 5 1, 3) := by decide +kernel
theorem dX12_runs_81 : decode cX12_runs 81 = .ok (.goto (-26), 3) := by decide +kernel
theorem dX12_runs_84 : decode cX12_runs 84 = .ok (.aload_n 0, 1) := by decide +kernel
theorem dX12_runs_85 : decode cX12_runs 85 = .ok (.getfield 185, 3) := by decide +kernel
theorem dX12_runs_88 : decode cX12_runs 88 = .ok (.iconst 0, 1) := by decide +kernel
theorem dX12_runs_89 : decode cX12_runs 89 = .ok (.dup2, 1) := by decide +kernel
theorem dX12_runs_90 : decode cX12_runs 90 = .ok (.iaload, 1) := by decide +kernel
theorem dX12_runs_91 : decode cX12_runs 91 = .ok (.iconst 1, 1) := by decide +kernel
theorem dX12_runs_92 : decode cX12_runs 92 = .ok (.isub, 1) := by decide +kernel
theorem dX12_runs_93 : decode cX12_runs 93 = .ok (.iastore, 1) := by decide +kernel
theorem dX12_runs_94 : decode cX12_runs 94 = .ok (.iconst 3, 1) := by decide +kernel
theorem dX12_runs_95 : decode cX12_runs 95 = .ok (.aload_n 0, 1) := by decide +kernel
theorem dX12_runs_96 : decode cX12_runs 96 = .ok (.getfield 185, 3) := by decide +kernel
theorem dX12_runs_99 : decode cX12_runs 99 = .ok (.iconst 0, 1) := by decide +kernel
theorem dX12_runs_100 : decode cX12_runs 100 = .ok (.iaload, 1) := by decide +kernel
theorem dX12_runs_101 : decode cX12_runs 101 = .ok (.imul, 1) := by decide +kernel
theorem dX12_runs_102 : decode cX12_runs 102 = .ok (.istore 5, 2) := by decide +kernel
theorem dX12_runs_104 : decode cX12_runs 104 = .ok (.aload_n 0, 1) := by decide +kernel
theorem dX12_runs_105 : decode cX12_runs 105 = .ok (.getfield 188, 3) := by decide +kernel
theorem dX12_runs_108 : decode cX12_runs 108 = .ok (.iload 5, 2) := by decide +kernel
theorem dX12_runs_110 : decode cX12_runs 110 = .ok (.iload_n 1, 1) := by decide +kernel
theorem dX12_runs_111 : decode cX12_runs 111 = .ok (.iastore, 1) := by decide +kernel
theorem dX12_runs_112 : decode cX12_runs 112 = .ok (.aload_n 0, 1) := by decide +kernel
theorem dX12_runs_113 : decode cX12_runs 113 = .ok (.getfield 188, 3) := by decide +kernel
theorem dX12_runs_116 : decode cX12_runs 116 = .ok (.iload 5, 2) := by decide +kernel
theorem dX12_runs_118 : decode cX12_runs 118 = .ok (.iconst 1, 1) := by decide +kernel
theorem dX12_runs_119 : decode cX12_runs 119 = .ok (.iadd, 1) := by decide +kernel
theorem dX12_runs_120 : decode cX12_runs 120 = .ok (.iload_n 3, 1) := by decide +kernel
theorem dX12_runs_121 : decode cX12_runs 121 = .ok (.iconst (-1), 1) := by decide +kernel
theorem dX12_runs_122 : decode cX12_runs 122 = .ok (.if_icmp .ne 7, 3) := by decide +kernel
theorem dX12_runs_125 : decode cX12_runs 125 = .ok (.iconst (-1), 1) := by decide +kernel
theorem dX12_runs_126 : decode cX12_runs 126 = .ok (.goto 9, 3) := by decide +kernel
theorem dX12_runs_129 : decode cX12_runs 129 = .ok (.aload_n 0, 1) := by decide +kernel
theorem dX12_runs_130 : decode cX12_runs 130 = .ok (.getfield 176, 3) := by decide +kernel
theorem dX12_runs_133 : decode cX12_runs 133 = .ok (.iload_n 3, 1) := by decide +kernel
theorem dX12_runs_134 : decode cX12_runs 134 = .ok (.iaload, 1) := by decide +kernel
theorem dX12_runs_135 : decode cX12_runs 135 = .ok (.iastore, 1) := by decide +kernel
theorem dX12_runs_136 : decode cX12_runs 136 = .ok (.aload_n 0, 1) := by decide +kernel
theorem dX12_runs_137 : decode cX12_runs 137 = .ok (.getfield 188, 3) := by decide +kernel
theorem dX12_runs_140 : decode cX12_runs 140 = .ok (.iload 5, 2) := by decide +kernel
theorem dX12_runs_142 : decode cX12_runs 142 = .ok (.iconst 2, 1) := by decide +kernel
theorem dX12_runs_143 : decode cX12_runs 143 = .ok (.iadd, 1) := by decide +kernel
theorem dX12_runs_144 : decode cX12_runs 144 = .ok (.iload 4, 2) := by decide +kernel
theorem dX12_runs_146 : decode cX12_runs 146 = .ok (.iastore, 1) := by decide +kernel
theorem dX12_runs_147 : decode cX12_runs 147 = .ok (.aload_n 0, 1) := by decide +kernel
theorem dX12_runs_148 : decode cX12_runs 148 = .ok (.getfield 185, 3) := by decide +kernel
theorem dX12_runs_151 : decode cX12_runs 151 = .ok (.iconst 0, 1) := by decide +kernel
theorem dX12_runs_152 : decode cX12_runs 152 = .ok (.dup2, 1) := by decide +kernel
theorem dX12_runs_153 : decode cX12_runs 153 = .ok (.iaload, 1) := by decide +kernel
theorem dX12_runs_154 : decode cX12_runs 154 = .ok (.iconst 1, 1) := by decide +kernel
theorem dX12_runs_155 : decode cX12_runs 155 = .ok (.iadd, 1) := by decide +kernel
theorem dX12_runs_156 : decode cX12_runs 156 = .ok (.iastore, 1) := by decide +kernel
theorem dX12_runs_157 : decode cX12_runs 157 = .ok (.iload_n 3, 1) := by decide +kernel
theorem dX12_runs_158 : decode cX12_runs 158 = .ok (.ireturn, 1) := by decide +kernel
theorem dX12_run_0 : decode cX12_run 0 = .ok (.aload_n 0, 1) := by decide +kernel
theorem dX12_run_1 : decode cX12_run 1 = .ok (.iload_n 1, 1) := by decide +kernel
theorem dX12_run_2 : decode cX12_run 2 = .ok (.invokevirtual 516, 3) := by decide +kernel
theorem dX12_run_5 : decode cX12_run 5 = .ok (.ifCond .ne 9, 3) := by decide +kernel
theorem dX12_run_8 : decode cX12_run 8 = .ok (.aload_n 0, 1) := by decide +kernel
theorem dX12_run_9 : decode cX12_run 9 = .ok (.iconst 2, 1) := by decide +kernel
theorem dX12_run_10 : decode cX12_run 10 = .ok (.invokevirtual 312, 3) := by decide +kernel
theorem dX12_run_13 : decode cX12_run 13 = .ok (.ireturn, 1) := by decide +kernel
theorem dX12_run_14 : decode cX12_run 14 = .ok (.aload_n 0, 1) := by decide +kernel
theorem dX12_run_15 : decode cX12_run 15 = .ok (.invokevirtual 628, 3) := by decide +kernel
theorem dX12_run_18 : decode cX12_run 18 = .ok (.aload_n 0, 1) := by decide +kernel
theorem dX12_run_19 : decode cX12_run 19 = .ok (.iload_n 1, 1) := by decide +kernel
theorem dX12_run_20 : decode cX12_run 20 = .ok (.invokevirtual 631, 3) := by decide +kernel
theorem dX12_run_23 : decode cX12_run 23 = .ok (.ireturn, 1) := by decide +kernel
theorem dX12_draw_0 : decode cX12_draw 0 = .ok (.aload_n 0, 1) := by decide +kernel
theorem dX12_draw_1 : decode cX12_draw 1 = .ok (.ldc2_w 634, 3) := by decide +kernel
theorem dX12_draw_4 : decode cX12_draw 4 = .ok (.aload_n 0, 1) := by decide +kernel
theorem dX12_draw_5 : decode cX12_draw 5 = .ok (.getfield 197, 3) := by decide +kernel
theorem dX12_draw_8 : decode cX12_draw 8 = .ok (.lmul, 1) := by decide +kernel
theorem dX12_draw_9 : decode cX12_draw 9 = .ok (.ldc2_w 636, 3) := by decide +kernel
theorem dX12_draw_12 : decode cX12_draw 12 = .ok (.ladd, 1) := by decide +kernel
theorem dX12_draw_13 : decode cX12_draw 13 = .ok (.ldc2_w 638, 3) := by decide +kernel
theorem dX12_draw_16 : decode cX12_draw 16 = .ok (.lrem, 1) := by decide +kernel
theorem dX12_draw_17 : decode cX12_draw 17 = .ok (.putfield 197, 3) := by decide +kernel
theorem dX12_draw_20 : decode cX12_draw 20 = .ok (.aload_n 0, 1) := by decide +kernel
theorem dX12_draw_21 : decode cX12_draw 21 = .ok (.getfield 197, 3) := by decide +kernel
theorem dX12_draw_24 : decode cX12_draw 24 = .ok (.ldc2_w 640, 3) := by decide +kernel
theorem dX12_draw_27 : decode cX12_draw 27 = .ok (.ldiv, 1) := by decide +kernel
theorem dX12_draw_28 : decode cX12_draw 28 = .ok (.iload_n 1, 1) := by decide +kernel
theorem dX12_draw_29 : decode cX12_draw 29 = .ok (.i2l, 1) := by decide +kernel
theorem dX12_draw_30 : decode cX12_draw 30 = .ok (.lrem, 1) := by decide +kernel
theorem dX12_draw_31 : decode cX12_draw 31 = .ok (.l2i, 1) := by decide +kernel
theorem dX12_draw_32 : decode cX12_draw 32 = .ok (.ireturn, 1) := by decide +kernel
theorem dX12_chance_0 : decode cX12_chance 0 = .ok (.aload_n 0, 1) := by decide +kernel
theorem dX12_chance_1 : decode cX12_chance 1 = .ok (.getfield 146, 3) := by decide +kernel
theorem dX12_chance_4 : decode cX12_chance 4 = .ok (.ifCond .eq 13, 3) := by decide +kernel
theorem dX12_chance_7 : decode cX12_chance 7 = .ok (.iload_n 1, 1) := by decide +kernel
theorem dX12_chance_8 : decode cX12_chance 8 = .ok (.iconst 1, 1) := by decide +kernel
theorem dX12_chance_9 : decode cX12_chance 9 = .ok (.bipush 40, 2) := by decide +kernel
theorem dX12_chance_11 : decode cX12_chance 11 = .ok (.invokestatic 362, 3) := by decide +kernel
theorem dX12_chance_14 : decode cX12_chance 14 = .ok (.ifCond .ne 9, 3) := by decide +kernel
theorem dX12_chance_17 : decode cX12_chance 17 = .ok (.aload_n 0, 1) := by decide +kernel
theorem dX12_chance_18 : decode cX12_chance 18 = .ok (.iconst 2, 1) := by decide +kernel
theorem dX12_chance_19 : decode cX12_chance 19 = .ok (.invokevirtual 312, 3) := by decide +kernel
theorem dX12_chance_22 : decode cX12_chance 22 = .ok (.ireturn, 1) := by decide +kernel
theorem dX12_chance_23 : decode cX12_chance 23 = .ok (.aload_n 0, 1) := by decide +kernel
theorem dX12_chance_24 : decode cX12_chance 24 = .ok (.invokevirtual 628, 3) := by decide +kernel
theorem dX12_chance_27 : decode cX12_chance 27 = .ok (.iconst 0, 1) := by decide +kernel
theorem dX12_chance_28 : decode cX12_chance 28 = .ok (.istore_n 2, 1) := by decide +kernel
theorem dX12_chance_29 : decode cX12_chance 29 = .ok (.iconst 0, 1) := by decide +kernel
theorem dX12_chance_30 : decode cX12_chance 30 = .ok (.istore_n 3, 1) := by decide +kernel
theorem dX12_chance_31 : decode cX12_chance 31 = .ok (.iload_n 3, 1) := by decide +kernel
theorem dX12_chance_32 : decode cX12_chance 32 = .ok (.iload_n 1, 1) := by decide +kernel
theorem dX12_chance_33 : decode cX12_chance 33 = .ok (.if_icmp .ge 33, 3) := by decide +kernel
theorem dX12_chance_36 : decode cX12_chance 36 = .ok (.iload_n 2, 1) := by decide +kernel
theorem dX12_chance_37 : decode cX12_chance 37 = .ok (.aload_n 0, 1) := by decide +kernel
theorem dX12_chance_38 : decode cX12_chance 38 = .ok (.aload_n 0, 1) := by decide +kernel
theorem dX12_chance_39 : decode cX12_chance 39 = .ok (.aload_n 0, 1) := by decide +kernel
theorem dX12_chance_40 : decode cX12_chance 40 = .ok (.getfield 170, 3) := by decide +kernel
theorem dX12_chance_43 : decode cX12_chance 43 = .ok (.invokevirtual 642, 3) := by decide +kernel
theorem dX12_chance_46 : decode cX12_chance 46 = .ok (.invokevirtual 631, 3) := by decide +kernel
theorem dX12_chance_49 : decode cX12_chance 49 = .ok (.iconst (-1), 1) := by decide +kernel
theorem dX12_chance_50 : decode cX12_chance 50 = .ok (.if_icmp .ne 7, 3) := by decide +kernel
theorem dX12_chance_53 : decode cX12_chance 53 = .ok (.iconst 1, 1) := by decide +kernel
theorem dX12_chance_54 : decode cX12_chance 54 = .ok (.goto 4, 3) := by decide +kernel
theorem dX12_chance_57 : decode cX12_chance 57 = .ok (.iconst 0, 1) := by decide +kernel
theorem dX12_chance_58 : decode cX12_chance 58 = .ok (.iadd, 1) := by decide +kernel
theorem dX12_chance_59 : decode cX12_chance 59 = .ok (.istore_n 2, 1) := by decide +kernel
theorem dX12_chance_60 : decode cX12_chance 60 = .ok (.iinc 3 1, 3) := by decide +kernel
theorem dX12_chance_63 : decode cX12_chance 63 = .ok (.goto (-32), 3) := by decide +kernel
theorem dX12_chance_66 : decode cX12_chance 66 = .ok (.iload_n 2, 1) := by decide +kernel
theorem dX12_chance_67 : decode cX12_chance 67 = .ok (.ireturn, 1) := by decide +kernel
theorem dX12_swap_0 : decode cX12_swap 0 = .ok (.aload_n 0, 1) := by decide +kernel
theorem dX12_swap_1 : decode cX12_swap 1 = .ok (.iload_n 1, 1) := by decide +kernel
theorem dX12_swap_2 : decode cX12_swap 2 = .ok (.invokevirtual 498, 3) := by decide +kernel
theorem dX12_swap_5 : decode cX12_swap 5 = .ok (.ifCond .eq 16, 3) := by decide +kernel
theorem dX12_swap_8 : decode cX12_swap 8 = .ok (.aload_n 0, 1) := by decide +kernel
theorem dX12_swap_9 : decode cX12_swap 9 = .ok (.iload_n 2, 1) := by decide +kernel
theorem dX12_swap_10 : decode cX12_swap 10 = .ok (.invokevirtual 498, 3) := by decide +kernel
theorem dX12_swap_13 : decode cX12_swap 13 = .ok (.ifCond .eq 8, 3) := by decide +kernel
theorem dX12_swap_16 : decode cX12_swap 16 = .ok (.iload_n 1, 1) := by decide +kernel
theorem dX12_swap_17 : decode cX12_swap 17 = .ok (.iload_n 2, 1) := by decide +kernel
theorem dX12_swap_18 : decode cX12_swap 18 = .ok (.if_icmp .ne 17, 3) := by decide +kernel
theorem dX12_swap_21 : decode cX12_swap 21 = .ok (.aload_n 0, 1) := by decide +kernel
theorem dX12_swap_22 : decode cX12_swap 22 = .ok (.iconst 3, 1) := by decide +kernel
theorem dX12_swap_23 : decode cX12_swap 23 = .ok (.invokevirtual 312, 3) := by decide +kernel
end
section
theorem dX12_swap_26 : decode cX12_swap 26 = .ok (.ifCond .lt 7, 3) := by decide +kernel
theorem dX12_swap_33 : decode cX12_swap 33 = .ok (.iconst 0, 1) := by decide +kernel
theorem dX12_swap_34 : decode cX12_swap 34 = .ok (.ireturn, 1) := by decide +kernel
theorem dX12_swap_35 : decode cX12_swap 35 = .ok (.aload_n 0, 1) := by decide +kernel
theorem dX12_swap_36 : decode cX12_swap 36 = .ok (.invokevirtual 628, 3) := by decide +kernel
theorem dX12_swap_39 : decode cX12_swap 39 = .ok (.aload_n 0, 1) := by decide +kernel
theorem dX12_swap_40 : decode cX12_swap 40 = .ok (.iconst 0, 1) := by decide +kernel
theorem dX12_swap_41 : decode cX12_swap 41 = .ok (.iload_n 1, 1) := by decide +kernel
theorem dX12_swap_42 : decode cX12_swap 42 = .ok (.iload_n 2, 1) := by decide +kernel
theorem dX12_swap_43 : decode cX12_swap 43 = .ok (.invokevirtual 618, 3) := by decide +kernel
theorem dX12_swap_46 : decode cX12_swap 46 = .ok (.iconst 1, 1) := by decide +kernel
theorem dX12_swap_47 : decode cX12_swap 47 = .ok (.ireturn, 1) := by decide +kernel
theorem dX12_drop_0 : decode cX12_drop 0 = .ok (.aload_n 0, 1) := by decide +kernel
theorem dX12_drop_1 : decode cX12_drop 1 = .ok (.iload_n 1, 1) := by decide +kernel
theorem dX12_drop_2 : decode cX12_drop 2 = .ok (.invokevirtual 498, 3) := by decide +kernel
theorem dX12_drop_5 : decode cX12_drop 5 = .ok (.ifCond .ne 17, 3) := by decide +kernel
theorem dX12_drop_8 : decode cX12_drop 8 = .ok (.aload_n 0, 1) := by decide +kernel
theorem dX12_drop_9 : decode cX12_drop 9 = .ok (.iconst 3, 1) := by decide +kernel
theorem dX12_drop_10 : decode cX12_drop 10 = .ok (.invokevirtual 312, 3) := by decide +kernel
theorem dX12_drop_13 : decode cX12_drop 13 = .ok (.ifCond .lt 7, 3) := by decide +kernel
theorem dX12_drop_20 : decode cX12_drop 20 = .ok (.iconst 0, 1) := by decide +kernel
theorem dX12_drop_21 : decode cX12_drop 21 = .ok (.ireturn, 1) := by decide +kernel
theorem dX12_drop_22 : decode cX12_drop 22 = .ok (.aload_n 0, 1) := by decide +kernel
theorem dX12_drop_23 : decode cX12_drop 23 = .ok (.invokevirtual 628, 3) := by decide +kernel
theorem dX12_drop_26 : decode cX12_drop 26 = .ok (.iload_n 1, 1) := by decide +kernel
theorem dX12_drop_27 : decode cX12_drop 27 = .ok (.istore_n 2, 1) := by decide +kernel
theorem dX12_drop_28 : decode cX12_drop 28 = .ok (.iload_n 2, 1) := by decide +kernel
theorem dX12_drop_29 : decode cX12_drop 29 = .ok (.iconst 1, 1) := by decide +kernel
theorem dX12_drop_30 : decode cX12_drop 30 = .ok (.iadd, 1) := by decide +kernel
theorem dX12_drop_31 : decode cX12_drop 31 = .ok (.aload_n 0, 1) := by decide +kernel
theorem dX12_drop_32 : decode cX12_drop 32 = .ok (.getfield 173, 3) := by decide +kernel
theorem dX12_drop_35 : decode cX12_drop 35 = .ok (.iconst 0, 1) := by decide +kernel
theorem dX12_drop_36 : decode cX12_drop 36 = .ok (.iaload, 1) := by decide +kernel
theorem dX12_drop_37 : decode cX12_drop 37 = .ok (.if_icmp .ge 23, 3) := by decide +kernel
theorem dX12_drop_40 : decode cX12_drop 40 = .ok (.aload_n 0, 1) := by decide +kernel
theorem dX12_drop_41 : decode cX12_drop 41 = .ok (.getfield 176, 3) := by decide +kernel
theorem dX12_drop_44 : decode cX12_drop 44 = .ok (.iload_n 2, 1) := by decide +kernel
theorem dX12_drop_45 : decode cX12_drop 45 = .ok (.aload_n 0, 1) := by decide +kernel
theorem dX12_drop_46 : decode cX12_drop 46 = .ok (.getfield 176, 3) := by decide +kernel
theorem dX12_drop_49 : decode cX12_drop 49 = .ok (.iload_n 2, 1) := by decide +kernel
theorem dX12_drop_50 : decode cX12_drop 50 = .ok (.iconst 1, 1) := by decide +kernel
theorem dX12_drop_51 : decode cX12_drop 51 = .ok (.iadd, 1) := by decide +kernel
theorem dX12_drop_52 : decode cX12_drop 52 = .ok (.iaload, 1) := by decide +kernel
theorem dX12_drop_53 : decode cX12_drop 53 = .ok (.iastore, 1) := by decide +kernel
theorem dX12_drop_54 : decode cX12_drop 54 = .ok (.iinc 2 1, 3) := by decide +kernel
theorem dX12_drop_57 : decode cX12_drop 57 = .ok (.goto (-29), 3) := by decide +kernel
theorem dX12_drop_60 : decode cX12_drop 60 = .ok (.aload_n 0, 1) := by decide +kernel
theorem dX12_drop_61 : decode cX12_drop 61 = .ok (.getfield 173, 3) := by decide +kernel
theorem dX12_drop_64 : decode cX12_drop 64 = .ok (.iconst 0, 1) := by decide +kernel
theorem dX12_drop_65 : decode cX12_drop 65 = .ok (.dup2, 1) := by decide +kernel
theorem dX12_drop_66 : decode cX12_drop 66 = .ok (.iaload, 1) := by decide +kernel
theorem dX12_drop_67 : decode cX12_drop 67 = .ok (.iconst 1, 1) := by decide +kernel
theorem dX12_drop_68 : decode cX12_drop 68 = .ok (.isub, 1) := by decide +kernel
theorem dX12_drop_69 : decode cX12_drop 69 = .ok (.iastore, 1) := by decide +kernel
theorem dX12_drop_70 : decode cX12_drop 70 = .ok (.iconst 1, 1) := by decide +kernel
theorem dX12_drop_71 : decode cX12_drop 71 = .ok (.ireturn, 1) := by decide +kernel
theorem dX12_turn_0 : decode cX12_turn 0 = .ok (.aload_n 0, 1) := by decide +kernel
theorem dX12_turn_1 : decode cX12_turn 1 = .ok (.getfield 146, 3) := by decide +kernel
theorem dX12_turn_4 : decode cX12_turn 4 = .ok (.ifCond .eq 13, 3) := by decide +kernel
theorem dX12_turn_7 : decode cX12_turn 7 = .ok (.iload_n 1, 1) := by decide +kernel
theorem dX12_turn_8 : decode cX12_turn 8 = .ok (.iconst 0, 1) := by decide +kernel
theorem dX12_turn_9 : decode cX12_turn 9 = .ok (.bipush 7, 2) := by decide +kernel
theorem dX12_turn_11 : decode cX12_turn 11 = .ok (.invokestatic 362, 3) := by decide +kernel
theorem dX12_turn_14 : decode cX12_turn 14 = .ok (.ifCond .ne 9, 3) := by decide +kernel
theorem dX12_turn_17 : decode cX12_turn 17 = .ok (.aload_n 0, 1) := by decide +kernel
theorem dX12_turn_18 : decode cX12_turn 18 = .ok (.iconst 3, 1) := by decide +kernel
theorem dX12_turn_19 : decode cX12_turn 19 = .ok (.invokevirtual 312, 3) := by decide +kernel
theorem dX12_turn_22 : decode cX12_turn 22 = .ok (.ireturn, 1) := by decide +kernel
theorem dX12_turn_23 : decode cX12_turn 23 = .ok (.aload_n 0, 1) := by decide +kernel
theorem dX12_turn_24 : decode cX12_turn 24 = .ok (.invokevirtual 628, 3) := by decide +kernel
theorem dX12_turn_27 : decode cX12_turn 27 = .ok (.aload_n 0, 1) := by decide +kernel
theorem dX12_turn_28 : decode cX12_turn 28 = .ok (.getfield 179, 3) := by decide +kernel
theorem dX12_turn_31 : decode cX12_turn 31 = .ok (.iconst 0, 1) := by decide +kernel
theorem dX12_turn_32 : decode cX12_turn 32 = .ok (.dup2, 1) := by decide +kernel
theorem dX12_turn_33 : decode cX12_turn 33 = .ok (.iaload, 1) := by decide +kernel
theorem dX12_turn_34 : decode cX12_turn 34 = .ok (.iconst 1, 1) := by decide +kernel
theorem dX12_turn_35 : decode cX12_turn 35 = .ok (.iload_n 1, 1) := by decide +kernel
theorem dX12_turn_36 : decode cX12_turn 36 = .ok (.ishl, 1) := by decide +kernel
theorem dX12_turn_37 : decode cX12_turn 37 = .ok (.ixor, 1) := by decide +kernel
theorem dX12_turn_38 : decode cX12_turn 38 = .ok (.iastore, 1) := by decide +kernel
theorem dX12_turn_39 : decode cX12_turn 39 = .ok (.aload_n 0, 1) := by decide +kernel
theorem dX12_turn_40 : decode cX12_turn 40 = .ok (.getfield 179, 3) := by decide +kernel
theorem dX12_turn_43 : decode cX12_turn 43 = .ok (.iconst 0, 1) := by decide +kernel
theorem dX12_turn_44 : decode cX12_turn 44 = .ok (.iaload, 1) := by decide +kernel
theorem dX12_turn_45 : decode cX12_turn 45 = .ok (.iload_n 1, 1) := by decide +kernel
theorem dX12_turn_46 : decode cX12_turn 46 = .ok (.ishr, 1) := by decide +kernel
theorem dX12_turn_47 : decode cX12_turn 47 = .ok (.iconst 1, 1) := by decide +kernel
theorem dX12_turn_48 : decode cX12_turn 48 = .ok (.iand, 1) := by decide +kernel
theorem dX12_turn_49 : decode cX12_turn 49 = .ok (.ireturn, 1) := by decide +kernel
theorem dX12_choose_0 : decode cX12_choose 0 = .ok (.aload_n 0, 1) := by decide +kernel
theorem dX12_choose_1 : decode cX12_choose 1 = .ok (.getfield 146, 3) := by decide +kernel
theorem dX12_choose_4 : decode cX12_choose 4 = .ok (.ifCond .eq 22, 3) := by decide +kernel
theorem dX12_choose_7 : decode cX12_choose 7 = .ok (.iload_n 1, 1) := by decide +kernel
theorem dX12_choose_8 : decode cX12_choose 8 = .ok (.iconst 0, 1) := by decide +kernel
theorem dX12_choose_9 : decode cX12_choose 9 = .ok (.iconst 3, 1) := by decide +kernel
theorem dX12_choose_10 : decode cX12_choose 10 = .ok (.invokestatic 362, 3) := by decide +kernel
theorem dX12_choose_13 : decode cX12_choose 13 = .ok (.ifCond .eq 13, 3) := by decide +kernel
theorem dX12_choose_16 : decode cX12_choose 16 = .ok (.aload_n 0, 1) := by decide +kernel
theorem dX12_choose_17 : decode cX12_choose 17 = .ok (.getfield 182, 3) := by decide +kernel
theorem dX12_choose_20 : decode cX12_choose 20 = .ok (.iconst 0, 1) := by decide +kernel
theorem dX12_choose_21 : decode cX12_choose 21 = .ok (.iaload, 1) := by decide +kernel
theorem dX12_choose_22 : decode cX12_choose 22 = .ok (.iload_n 1, 1) := by decide +kernel
theorem dX12_choose_23 : decode cX12_choose 23 = .ok (.if_icmp .ne 17, 3) := by decide +kernel
theorem dX12_choose_26 : decode cX12_choose 26 = .ok (.aload_n 0, 1) := by decide +kernel
theorem dX12_choose_27 : decode cX12_choose 27 = .ok (.iconst 3, 1) := by decide +kernel
theorem dX12_choose_28 : decode cX12_choose 28 = .ok (.invokevirtual 312, 3) := by decide +kernel
theorem dX12_choose_31 : decode cX12_choose 31 = .ok (.ifCond .lt 7, 3) := by decide +kernel
theorem dX12_choose_38 : decode cX12_choose 38 = .ok (.iconst 0, 1) := by decide +kernel
theorem dX12_choose_39 : decode cX12_choose 39 = .ok (.ireturn, 1) := by decide +kernel
theorem dX12_choose_40 : decode cX12_choose 40 = .ok (.aload_n 0, 1) := by decide +kernel
theorem dX12_choose_41 : decode cX12_choose 41 = .ok (.invokevirtual 628, 3) := by decide +kernel
theorem dX12_choose_44 : decode cX12_choose 44 = .ok (.aload_n 0, 1) := by decide +kernel
theorem dX12_choose_45 : decode cX12_choose 45 = .ok (.getfield 182, 3) := by decide +kernel
theorem dX12_choose_48 : decode cX12_choose 48 = .ok (.iconst 0, 1) := by decide +kernel
theorem dX12_choose_49 : decode cX12_choose 49 = .ok (.iload_n 1, 1) := by decide +kernel
theorem dX12_choose_50 : decode cX12_choose 50 = .ok (.iastore, 1) := by decide +kernel
theorem dX12_choose_51 : decode cX12_choose 51 = .ok (.iconst 1, 1) := by decide +kernel
theorem dX12_choose_52 : decode cX12_choose 52 = .ok (.ireturn, 1) := by decide +kernel
theorem dX12_seed_0 : decode cX12_seed 0 = .ok (.iload_n 1, 1) := by decide +kernel
theorem dX12_seed_1 : decode cX12_seed 1 = .ok (.ifCond .ge 17, 3) := by decide +kernel
theorem dX12_seed_4 : decode cX12_seed 4 = .ok (.aload_n 0, 1) := by decide +kernel
theorem dX12_seed_5 : decode cX12_seed 5 = .ok (.iconst 5, 1) := by decide +kernel
theorem dX12_seed_6 : decode cX12_seed 6 = .ok (.invokevirtual 312, 3) := by decide +kernel
theorem dX12_seed_9 : decode cX12_seed 9 = .ok (.ifCond .lt 7, 3) := by decide +kernel
theorem dX12_seed_16 : decode cX12_seed 16 = .ok (.iconst 0, 1) := by decide +kernel
theorem dX12_seed_17 : decode cX12_seed 17 = .ok (.ireturn, 1) := by decide +kernel
theorem dX12_seed_18 : decode cX12_seed 18 = .ok (.aload_n 0, 1) := by decide +kernel
theorem dX12_seed_19 : decode cX12_seed 19 = .ok (.iload_n 1, 1) := by decide +kernel
theorem dX12_seed_20 : decode cX12_seed 20 = .ok (.i2l, 1) := by decide +kernel
theorem dX12_seed_21 : decode cX12_seed 21 = .ok (.putfield 197, 3) := by decide +kernel
theorem dX12_seed_24 : decode cX12_seed 24 = .ok (.iconst 1, 1) := by decide +kernel
theorem dX12_seed_25 : decode cX12_seed 25 = .ok (.ireturn, 1) := by decide +kernel
theorem dX12_kept_0 : decode cX12_kept 0 = .ok (.iload_n 1, 1) := by decide +kernel
theorem dX12_kept_1 : decode cX12_kept 1 = .ok (.iconst 0, 1) := by decide +kernel
theorem dX12_kept_2 : decode cX12_kept 2 = .ok (.aload_n 0, 1) := by decide +kernel
theorem dX12_kept_3 : decode cX12_kept 3 = .ok (.getfield 185, 3) := by decide +kernel
theorem dX12_kept_6 : decode cX12_kept 6 = .ok (.iconst 0, 1) := by decide +kernel
theorem dX12_kept_7 : decode cX12_kept 7 = .ok (.iaload, 1) := by decide +kernel
theorem dX12_kept_8 : decode cX12_kept 8 = .ok (.iconst 1, 1) := by decide +kernel
theorem dX12_kept_9 : decode cX12_kept 9 = .ok (.isub, 1) := by decide +kernel
theorem dX12_kept_10 : decode cX12_kept 10 = .ok (.invokestatic 362, 3) := by decide +kernel
theorem dX12_kept_13 : decode cX12_kept 13 = .ok (.ifCond .eq 25, 3) := by decide +kernel
theorem dX12_kept_16 : decode cX12_kept 16 = .ok (.iload_n 2, 1) := by decide +kernel
theorem dX12_kept_17 : decode cX12_kept 17 = .ok (.iconst 0, 1) := by decide +kernel
theorem dX12_kept_18 : decode cX12_kept 18 = .ok (.iconst 2, 1) := by decide +kernel
theorem dX12_kept_19 : decode cX12_kept 19 = .ok (.invokestatic 362, 3) := by decide +kernel
theorem dX12_kept_22 : decode cX12_kept 22 = .ok (.ifCond .eq 16, 3) := by decide +kernel
theorem dX12_kept_25 : decode cX12_kept 25 = .ok (.aload_n 0, 1) := by decide +kernel
theorem dX12_kept_26 : decode cX12_kept 26 = .ok (.getfield 188, 3) := by decide +kernel
theorem dX12_kept_29 : decode cX12_kept 29 = .ok (.iconst 3, 1) := by decide +kernel
theorem dX12_kept_30 : decode cX12_kept 30 = .ok (.iload_n 1, 1) := by decide +kernel
theorem dX12_kept_31 : decode cX12_kept 31 = .ok (.imul, 1) := by decide +kernel
theorem dX12_kept_32 : decode cX12_kept 32 = .ok (.iload_n 2, 1) := by decide +kernel
theorem dX12_kept_33 : decode cX12_kept 33 = .ok (.iadd, 1) := by decide +kernel
theorem dX12_kept_34 : decode cX12_kept 34 = .ok (.iaload, 1) := by decide +kernel
theorem dX12_kept_35 : decode cX12_kept 35 = .ok (.goto 4, 3) := by decide +kernel
theorem dX12_kept_38 : decode cX12_kept 38 = .ok (.iconst (-1), 1) := by decide +kernel
theorem dX12_kept_39 : decode cX12_kept 39 = .ok (.ireturn, 1) := by decide +kernel
theorem dX12_image_0 : decode cX12_image 0 = .ok (.aload_n 0, 1) := by decide +kernel
theorem dX12_image_1 : decode cX12_image 1 = .ok (.iconst 0, 1) := by decide +kernel
theorem dX12_image_2 : decode cX12_image 2 = .ok (.putfield 224, 3) := by decide +kernel
theorem dX12_image_5 : decode cX12_image 5 = .ok (.aload_n 0, 1) := by decide +kernel
theorem dX12_image_6 : decode cX12_image 6 = .ok (.aload_n 0, 1) := by decide +kernel
theorem dX12_image_7 : decode cX12_image 7 = .ok (.getfield 173, 3) := by decide +kernel
theorem dX12_image_10 : decode cX12_image 10 = .ok (.iconst 0, 1) := by decide +kernel
theorem dX12_image_11 : decode cX12_image 11 = .ok (.iaload, 1) := by decide +kernel
theorem dX12_image_12 : decode cX12_image 12 = .ok (.invokevirtual 528, 3) := by decide +kernel
theorem dX12_image_15 : decode cX12_image 15 = .ok (.iconst 0, 1) := by decide +kernel
theorem dX12_image_16 : decode cX12_image 16 = .ok (.istore_n 1, 1) := by decide +kernel
theorem dX12_image_17 : decode cX12_image 17 = .ok (.iload_n 1, 1) := by decide +kernel
theorem dX12_image_18 : decode cX12_image 18 = .ok (.aload_n 0, 1) := by decide +kernel
theorem dX12_image_19 : decode cX12_image 19 = .ok (.getfield 173, 3) := by decide +kernel
theorem dX12_image_22 : decode cX12_image 22 = .ok (.iconst 0, 1) := by decide +kernel
theorem dX12_image_23 : decode cX12_image 23 = .ok (.iaload, 1) := by decide +kernel
theorem dX12_image_24 : decode cX12_image 24 = .ok (.if_icmp .ge 19, 3) := by decide +kernel
theorem dX12_image_27 : decode cX12_image 27 = .ok (.aload_n 0, 1) := by decide +kernel
theorem dX12_image_28 : decode cX12_image 28 = .ok (.aload_n 0, 1) := by decide +kernel
theorem dX12_image_29 : decode cX12_image 29 = .ok (.getfield 176, 3) := by decide +kernel
theorem dX12_image_32 : decode cX12_image 32 = .ok (.iload_n 1, 1) := by decide +kernel
theorem dX12_image_33 : decode cX12_image 33 = .ok (.iaload, 1) := by decide +kernel
theorem dX12_image_34 : decode cX12_image 34 = .ok (.invokevirtual 528, 3) := by decide +kernel
theorem dX12_image_37 : decode cX12_image 37 = .ok (.iinc 1 1, 3) := by decide +kernel
theorem dX12_image_40 : decode cX12_image 40 = .ok (.goto (-23), 3) := by decide +kernel
theorem dX12_image_43 : decode cX12_image 43 = .ok (.aload_n 0, 1) := by decide +kernel
theorem dX12_image_44 : decode cX12_image 44 = .ok (.aload_n 0, 1) := by decide +kernel
theorem dX12_image_45 : decode cX12_image 45 = .ok (.getfield 179, 3) := by decide +kernel
theorem dX12_image_48 : decode cX12_image 48 = .ok (.iconst 0, 1) := by decide +kernel
theorem dX12_image_49 : decode cX12_image 49 = .ok (.iaload, 1) := by decide +kernel
theorem dX12_image_50 : decode cX12_image 50 = .ok (.invokevirtual 528, 3) := by decide +kernel
theorem dX12_image_53 : decode cX12_image 53 = .ok (.aload_n 0, 1) := by decide +kernel
theorem dX12_image_54 : decode cX12_image 54 = .ok (.aload_n 0, 1) := by decide +kernel
theorem dX12_image_55 : decode cX12_image 55 = .ok (.getfield 182, 3) := by decide +kernel
theorem dX12_image_58 : decode cX12_image 58 = .ok (.iconst 0, 1) := by decide +kernel
theorem dX12_image_59 : decode cX12_image 59 = .ok (.iaload, 1) := by decide +kernel
theorem dX12_image_60 : decode cX12_image 60 = .ok (.invokevirtual 528, 3) := by decide +kernel
theorem dX12_image_63 : decode cX12_image 63 = .ok (.sipush 199, 3) := by decide +kernel
theorem dX12_image_66 : decode cX12_image 66 = .ok (.istore_n 1, 1) := by decide +kernel
theorem dX12_image_67 : decode cX12_image 67 = .ok (.iconst 0, 1) := by decide +kernel
theorem dX12_image_68 : decode cX12_image 68 = .ok (.istore_n 2, 1) := by decide +kernel
theorem dX12_image_69 : decode cX12_image 69 = .ok (.iload_n 2, 1) := by decide +kernel
theorem dX12_image_70 : decode cX12_image 70 = .ok (.aload_n 0, 1) := by decide +kernel
theorem dX12_image_71 : decode cX12_image 71 = .ok (.getfield 224, 3) := by decide +kernel
theorem dX12_image_74 : decode cX12_image 74 = .ok (.if_icmp .ge 24, 3) := by decide +kernel
theorem dX12_image_77 : decode cX12_image 77 = .ok (.iconst 5, 1) := by decide +kernel
theorem dX12_image_78 : decode cX12_image 78 = .ok (.iload_n 1, 1) := by decide +kernel
theorem dX12_image_79 : decode cX12_image 79 = .ok (.imul, 1) := by decide +kernel
theorem dX12_image_80 : decode cX12_image 80 = .ok (.aload_n 0, 1) := by decide +kernel
theorem dX12_image_81 : decode cX12_image 81 = .ok (.getfield 221, 3) := by decide +kernel
theorem dX12_image_84 : decode cX12_image 84 = .ok (.iload_n 2, 1) := by decide +kernel
theorem dX12_image_85 : decode cX12_image 85 = .ok (.iaload, 1) := by decide +kernel
theorem dX12_image_86 : decode cX12_image 86 = .ok (.iadd, 1) := by decide +kernel
theorem dX12_image_87 : decode cX12_image 87 = .ok (.sipush 251, 3) := by decide +kernel
theorem dX12_image_90 : decode cX12_image 90 = .ok (.irem, 1) := by decide +kernel
theorem dX12_image_91 : decode cX12_image 91 = .ok (.istore_n 1, 1) := by decide +kernel
theorem dX12_image_92 : decode cX12_image 92 = .ok (.iinc 2 1, 3) := by decide +kernel
theorem dX12_image_95 : decode cX12_image 95 = .ok (.goto (-26), 3) := by decide +kernel
theorem dX12_image_98 : decode cX12_image 98 = .ok (.aload_n 0, 1) := by decide +kernel
theorem dX12_image_99 : decode cX12_image 99 = .ok (.iload_n 1, 1) := by decide +kernel
theorem dX12_image_100 : decode cX12_image 100 = .ok (.invokevirtual 528, 3) := by decide +kernel
theorem dX12_image_103 : decode cX12_image 103 = .ok (.aload_n 0, 1) := by decide +kernel
theorem dX12_image_104 : decode cX12_image 104 = .ok (.getfield 224, 3) := by decide +kernel
theorem dX12_image_107 : decode cX12_image 107 = .ok (.ireturn, 1) := by decide +kernel
theorem dX12_comesOn_0 : decode cX12_comesOn 0 = .ok (.aload_n 0, 1) := by decide +kernel
theorem dX12_comesOn_1 : decode cX12_comesOn 1 = .ok (.getfield 146, 3) := by decide +kernel
theorem dX12_comesOn_4 : decode cX12_comesOn 4 = .ok (.ifCond .eq 38, 3) := by decide +kernel
theorem dX12_comesOn_7 : decode cX12_comesOn 7 = .ok (.iload_n 1, 1) := by decide +kernel
theorem dX12_comesOn_8 : decode cX12_comesOn 8 = .ok (.iconst 4, 1) := by decide +kernel
theorem dX12_comesOn_9 : decode cX12_comesOn 9 = .ok (.if_icmp .lt 33, 3) := by decide +kernel
theorem dX12_comesOn_12 : decode cX12_comesOn 12 = .ok (.aload_n 0, 1) := by decide +kernel
theorem dX12_comesOn_13 : decode cX12_comesOn 13 = .ok (.getfield 7, 3) := by decide +kernel
theorem dX12_comesOn_16 : decode cX12_comesOn 16 = .ok (.iconst 0, 1) := by decide +kernel
theorem dX12_comesOn_17 : decode cX12_comesOn 17 = .ok (.iaload, 1) := by decide +kernel
theorem dX12_comesOn_18 : decode cX12_comesOn 18 = .ok (.aload_n 0, 1) := by decide +kernel
theorem dX12_comesOn_19 : decode cX12_comesOn 19 = .ok (.getfield 87, 3) := by decide +kernel
theorem dX12_comesOn_22 : decode cX12_comesOn 22 = .ok (.aload_n 0, 1) := by decide +kernel
theorem dX12_comesOn_23 : decode cX12_comesOn 23 = .ok (.getfield 51, 3) := by decide +kernel
theorem dX12_comesOn_26 : decode cX12_comesOn 26 = .ok (.iaload, 1) := by decide +kernel
theorem dX12_comesOn_27 : decode cX12_comesOn 27 = .ok (.if_icmp .gt 15, 3) := by decide +kernel
theorem dX12_comesOn_30 : decode cX12_comesOn 30 = .ok (.iload_n 1, 1) := by decide +kernel
theorem dX12_comesOn_31 : decode cX12_comesOn 31 = .ok (.aload_n 0, 1) := by decide +kernel
theorem dX12_comesOn_32 : decode cX12_comesOn 32 = .ok (.getfield 7, 3) := by decide +kernel
theorem dX12_comesOn_35 : decode cX12_comesOn 35 = .ok (.iconst 0, 1) := by decide +kernel
theorem dX12_comesOn_36 : decode cX12_comesOn 36 = .ok (.iaload, 1) := by decide +kernel
theorem dX12_comesOn_37 : decode cX12_comesOn 37 = .ok (.iconst 4, 1) := by decide +kernel
theorem dX12_comesOn_38 : decode cX12_comesOn 38 = .ok (.iadd, 1) := by decide +kernel
theorem dX12_comesOn_39 : decode cX12_comesOn 39 = .ok (.if_icmp .eq 5, 3) := by decide +kernel
theorem dX12_comesOn_42 : decode cX12_comesOn 42 = .ok (.iconst 0, 1) := by decide +kernel
theorem dX12_comesOn_43 : decode cX12_comesOn 43 = .ok (.ireturn, 1) := by decide +kernel
theorem dX12_comesOn_44 : decode cX12_comesOn 44 = .ok (.sipush 199, 3) := by decide +kernel
theorem dX12_comesOn_47 : decode cX12_comesOn 47 = .ok (.istore_n 2, 1) := by decide +kernel
theorem dX12_comesOn_48 : decode cX12_comesOn 48 = .ok (.iconst 0, 1) := by decide +kernel
theorem dX12_comesOn_49 : decode cX12_comesOn 49 = .ok (.istore_n 3, 1) := by decide +kernel
theorem dX12_comesOn_50 : decode cX12_comesOn 50 = .ok (.iload_n 3, 1) := by decide +kernel
theorem dX12_comesOn_51 : decode cX12_comesOn 51 = .ok (.iload_n 1, 1) := by decide +kernel
theorem dX12_comesOn_52 : decode cX12_comesOn 52 = .ok (.iconst 1, 1) := by decide +kernel
theorem dX12_comesOn_53 : decode cX12_comesOn 53 = .ok (.isub, 1) := by decide +kernel
theorem dX12_comesOn_54 : decode cX12_comesOn 54 = .ok (.if_icmp .ge 24, 3) := by decide +kernel
theorem dX12_comesOn_57 : decode cX12_comesOn 57 = .ok (.iconst 5, 1) := by decide +kernel
theorem dX12_comesOn_58 : decode cX12_comesOn 58 = .ok (.iload_n 2, 1) := by decide +kernel
theorem dX12_comesOn_59 : decode cX12_comesOn 59 = .ok (.imul, 1) := by decide +kernel
theorem dX12_comesOn_60 : decode cX12_comesOn 60 = .ok (.aload_n 0, 1) := by decide +kernel
theorem dX12_comesOn_61 : decode cX12_comesOn 61 = .ok (.getfield 7, 3) := by decide +kernel
theorem dX12_comesOn_64 : decode cX12_comesOn 64 = .ok (.iload_n 3, 1) := by decide +kernel
theorem dX12_comesOn_65 : decode cX12_comesOn 65 = .ok (.iaload, 1) := by decide +kernel
theorem dX12_comesOn_66 : decode cX12_comesOn 66 = .ok (.iadd, 1) := by decide +kernel
theorem dX12_comesOn_67 : decode cX12_comesOn 67 = .ok (.sipush 251, 3) := by decide +kernel
theorem dX12_comesOn_70 : decode cX12_comesOn 70 = .ok (.irem, 1) := by decide +kernel
theorem dX12_comesOn_71 : decode cX12_comesOn 71 = .ok (.istore_n 2, 1) := by decide +kernel
theorem dX12_comesOn_72 : decode cX12_comesOn 72 = .ok (.iinc 3 1, 3) := by decide +kernel
theorem dX12_comesOn_75 : decode cX12_comesOn 75 = .ok (.goto (-25), 3) := by decide +kernel
theorem dX12_comesOn_78 : decode cX12_comesOn 78 = .ok (.aload_n 0, 1) := by decide +kernel
theorem dX12_comesOn_79 : decode cX12_comesOn 79 = .ok (.getfield 7, 3) := by decide +kernel
theorem dX12_comesOn_82 : decode cX12_comesOn 82 = .ok (.iload_n 1, 1) := by decide +kernel
theorem dX12_comesOn_83 : decode cX12_comesOn 83 = .ok (.iconst 1, 1) := by decide +kernel
theorem dX12_comesOn_84 : decode cX12_comesOn 84 = .ok (.isub, 1) := by decide +kernel
theorem dX12_comesOn_85 : decode cX12_comesOn 85 = .ok (.iaload, 1) := by decide +kernel
theorem dX12_comesOn_86 : decode cX12_comesOn 86 = .ok (.iload_n 2, 1) := by decide +kernel
theorem dX12_comesOn_87 : decode cX12_comesOn 87 = .ok (.if_icmp .ne 15, 3) := by decide +kernel
theorem dX12_comesOn_90 : decode cX12_comesOn 90 = .ok (.aload_n 0, 1) := by decide +kernel
theorem dX12_comesOn_91 : decode cX12_comesOn 91 = .ok (.getfield 7, 3) := by decide +kernel
theorem dX12_comesOn_94 : decode cX12_comesOn 94 = .ok (.iload_n 1, 1) := by decide +kernel
theorem dX12_comesOn_95 : decode cX12_comesOn 95 = .ok (.iconst 2, 1) := by decide +kernel
theorem dX12_comesOn_96 : decode cX12_comesOn 96 = .ok (.isub, 1) := by decide +kernel
theorem dX12_comesOn_97 : decode cX12_comesOn 97 = .ok (.iaload, 1) := by decide +kernel
theorem dX12_comesOn_98 : decode cX12_comesOn 98 = .ok (.iconst 4, 1) := by decide +kernel
theorem dX12_comesOn_99 : decode cX12_comesOn 99 = .ok (.if_icmp .lt 5, 3) := by decide +kernel
theorem dX12_comesOn_102 : decode cX12_comesOn 102 = .ok (.iconst 0, 1) := by decide +kernel
theorem dX12_comesOn_103 : decode cX12_comesOn 103 = .ok (.ireturn, 1) := by decide +kernel
theorem dX12_comesOn_104 : decode cX12_comesOn 104 = .ok (.aload_n 0, 1) := by decide +kernel
theorem dX12_comesOn_105 : decode cX12_comesOn 105 = .ok (.iconst 1, 1) := by decide +kernel
theorem dX12_comesOn_106 : decode cX12_comesOn 106 = .ok (.iconst 0, 1) := by decide +kernel
theorem dX12_comesOn_107 : decode cX12_comesOn 107 = .ok (.invokevirtual 472, 3) := by decide +kernel
theorem dX12_comesOn_110 : decode cX12_comesOn 110 = .ok (.aload_n 0, 1) := by decide +kernel
theorem dX12_comesOn_111 : decode cX12_comesOn 111 = .ok (.getfield 173, 3) := by decide +kernel
theorem dX12_comesOn_114 : decode cX12_comesOn 114 = .ok (.iconst 1, 1) := by decide +kernel
theorem dX12_comesOn_115 : decode cX12_comesOn 115 = .ok (.aload_n 0, 1) := by decide +kernel
theorem dX12_comesOn_116 : decode cX12_comesOn 116 = .ok (.getfield 7, 3) := by decide +kernel
theorem dX12_comesOn_119 : decode cX12_comesOn 119 = .ok (.iconst 0, 1) := by decide +kernel
theorem dX12_comesOn_120 : decode cX12_comesOn 120 = .ok (.iaload, 1) := by decide +kernel
theorem dX12_comesOn_121 : decode cX12_comesOn 121 = .ok (.iastore, 1) := by decide +kernel
theorem dX12_comesOn_122 : decode cX12_comesOn 122 = .ok (.iconst 0, 1) := by decide +kernel
theorem dX12_comesOn_123 : decode cX12_comesOn 123 = .ok (.istore_n 3, 1) := by decide +kernel
theorem dX12_comesOn_124 : decode cX12_comesOn 124 = .ok (.iconst 0, 1) := by decide +kernel
theorem dX12_comesOn_125 : decode cX12_comesOn 125 = .ok (.istore 4, 2) := by decide +kernel
theorem dX12_comesOn_127 : decode cX12_comesOn 127 = .ok (.iload 4, 2) := by decide +kernel
theorem dX12_comesOn_129 : decode cX12_comesOn 129 = .ok (.aload_n 0, 1) := by decide +kernel
theorem dX12_comesOn_130 : decode cX12_comesOn 130 = .ok (.getfield 7, 3) := by decide +kernel
theorem dX12_comesOn_133 : decode cX12_comesOn 133 = .ok (.iconst 0, 1) := by decide +kernel
theorem dX12_comesOn_134 : decode cX12_comesOn 134 = .ok (.iaload, 1) := by decide +kernel
theorem dX12_comesOn_135 : decode cX12_comesOn 135 = .ok (.if_icmp .ge 65, 3) := by decide +kernel
theorem dX12_comesOn_138 : decode cX12_comesOn 138 = .ok (.aload_n 0, 1) := by decide +kernel
theorem dX12_comesOn_139 : decode cX12_comesOn 139 = .ok (.getfield 7, 3) := by decide +kernel
theorem dX12_comesOn_142 : decode cX12_comesOn 142 = .ok (.iconst 1, 1) := by decide +kernel
theorem dX12_comesOn_143 : decode cX12_comesOn 143 = .ok (.iload 4, 2) := by decide +kernel
theorem dX12_comesOn_145 : decode cX12_comesOn 145 = .ok (.iadd, 1) := by decide +kernel
theorem dX12_comesOn_146 : decode cX12_comesOn 146 = .ok (.iaload, 1) := by decide +kernel
theorem dX12_comesOn_147 : decode cX12_comesOn 147 = .ok (.istore 5, 2) := by decide +kernel
theorem dX12_comesOn_149 : decode cX12_comesOn 149 = .ok (.iload 5, 2) := by decide +kernel
theorem dX12_comesOn_151 : decode cX12_comesOn 151 = .ok (.aload_n 0, 1) := by decide +kernel
theorem dX12_comesOn_152 : decode cX12_comesOn 152 = .ok (.getfield 87, 3) := by decide +kernel
theorem dX12_comesOn_155 : decode cX12_comesOn 155 = .ok (.aload_n 0, 1) := by decide +kernel
theorem dX12_comesOn_156 : decode cX12_comesOn 156 = .ok (.getfield 51, 3) := by decide +kernel
theorem dX12_comesOn_159 : decode cX12_comesOn 159 = .ok (.iaload, 1) := by decide +kernel
theorem dX12_comesOn_160 : decode cX12_comesOn 160 = .ok (.if_icmp .ge 13, 3) := by decide +kernel
theorem dX12_comesOn_163 : decode cX12_comesOn 163 = .ok (.iload_n 3, 1) := by decide +kernel
theorem dX12_comesOn_164 : decode cX12_comesOn 164 = .ok (.iload 5, 2) := by decide +kernel
theorem dX12_comesOn_166 : decode cX12_comesOn 166 = .ok (.ishr, 1) := by decide +kernel
theorem dX12_comesOn_167 : decode cX12_comesOn 167 = .ok (.iconst 1, 1) := by decide +kernel
theorem dX12_comesOn_168 : decode cX12_comesOn 168 = .ok (.iand, 1) := by decide +kernel
theorem dX12_comesOn_169 : decode cX12_comesOn 169 = .ok (.iconst 1, 1) := by decide +kernel
theorem dX12_comesOn_170 : decode cX12_comesOn 170 = .ok (.if_icmp .ne 5, 3) := by decide +kernel
theorem dX12_comesOn_173 : decode cX12_comesOn 173 = .ok (.iconst 0, 1) := by decide +kernel
theorem dX12_comesOn_174 : decode cX12_comesOn 174 = .ok (.ireturn, 1) := by decide +kernel
theorem dX12_comesOn_175 : decode cX12_comesOn 175 = .ok (.iload_n 3, 1) := by decide +kernel
theorem dX12_comesOn_176 : decode cX12_comesOn 176 = .ok (.iconst 1, 1) := by decide +kernel
theorem dX12_comesOn_177 : decode cX12_comesOn 177 = .ok (.iload 5, 2) := by decide +kernel
theorem dX12_comesOn_179 : decode cX12_comesOn 179 = .ok (.ishl, 1) := by decide +kernel
theorem dX12_comesOn_180 : decode cX12_comesOn 180 = .ok (.ior, 1) := by decide +kernel
theorem dX12_comesOn_181 : decode cX12_comesOn 181 = .ok (.istore_n 3, 1) := by decide +kernel
theorem dX12_comesOn_182 : decode cX12_comesOn 182 = .ok (.aload_n 0, 1) := by decide +kernel
theorem dX12_comesOn_183 : decode cX12_comesOn 183 = .ok (.getfield 176, 3) := by decide +kernel
theorem dX12_comesOn_186 : decode cX12_comesOn 186 = .ok (.bipush 12, 2) := by decide +kernel
theorem dX12_comesOn_188 : decode cX12_comesOn 188 = .ok (.iload 4, 2) := by decide +kernel
theorem dX12_comesOn_190 : decode cX12_comesOn 190 = .ok (.iadd, 1) := by decide +kernel
theorem dX12_comesOn_191 : decode cX12_comesOn 191 = .ok (.iload 5, 2) := by decide +kernel
theorem dX12_comesOn_193 : decode cX12_comesOn 193 = .ok (.iastore, 1) := by decide +kernel
theorem dX12_comesOn_194 : decode cX12_comesOn 194 = .ok (.iinc 4 1, 3) := by decide +kernel
theorem dX12_comesOn_197 : decode cX12_comesOn 197 = .ok (.goto (-70), 3) := by decide +kernel
theorem dX12_comesOn_200 : decode cX12_comesOn 200 = .ok (.aload_n 0, 1) := by decide +kernel
theorem dX12_comesOn_201 : decode cX12_comesOn 201 = .ok (.getfield 179, 3) := by decide +kernel
theorem dX12_comesOn_204 : decode cX12_comesOn 204 = .ok (.iconst 1, 1) := by decide +kernel
theorem dX12_comesOn_205 : decode cX12_comesOn 205 = .ok (.aload_n 0, 1) := by decide +kernel
theorem dX12_comesOn_206 : decode cX12_comesOn 206 = .ok (.getfield 7, 3) := by decide +kernel
theorem dX12_comesOn_209 : decode cX12_comesOn 209 = .ok (.iload_n 1, 1) := by decide +kernel
theorem dX12_comesOn_210 : decode cX12_comesOn 210 = .ok (.iconst 3, 1) := by decide +kernel
theorem dX12_comesOn_211 : decode cX12_comesOn 211 = .ok (.isub, 1) := by decide +kernel
theorem dX12_comesOn_212 : decode cX12_comesOn 212 = .ok (.iaload, 1) := by decide +kernel
theorem dX12_comesOn_213 : decode cX12_comesOn 213 = .ok (.iastore, 1) := by decide +kernel
theorem dX12_comesOn_214 : decode cX12_comesOn 214 = .ok (.aload_n 0, 1) := by decide +kernel
theorem dX12_comesOn_215 : decode cX12_comesOn 215 = .ok (.getfield 182, 3) := by decide +kernel
theorem dX12_comesOn_218 : decode cX12_comesOn 218 = .ok (.iconst 1, 1) := by decide +kernel
theorem dX12_comesOn_219 : decode cX12_comesOn 219 = .ok (.aload_n 0, 1) := by decide +kernel
theorem dX12_comesOn_220 : decode cX12_comesOn 220 = .ok (.getfield 7, 3) := by decide +kernel
theorem dX12_comesOn_223 : decode cX12_comesOn 223 = .ok (.iload_n 1, 1) := by decide +kernel
theorem dX12_comesOn_224 : decode cX12_comesOn 224 = .ok (.iconst 2, 1) := by decide +kernel
theorem dX12_comesOn_225 : decode cX12_comesOn 225 = .ok (.isub, 1) := by decide +kernel
theorem dX12_comesOn_226 : decode cX12_comesOn 226 = .ok (.iaload, 1) := by decide +kernel
theorem dX12_comesOn_227 : decode cX12_comesOn 227 = .ok (.iastore, 1) := by decide +kernel
theorem dX12_comesOn_228 : decode cX12_comesOn 228 = .ok (.aload_n 0, 1) := by decide +kernel
theorem dX12_comesOn_229 : decode cX12_comesOn 229 = .ok (.getfield 185, 3) := by decide +kernel
theorem dX12_comesOn_232 : decode cX12_comesOn 232 = .ok (.iconst 1, 1) := by decide +kernel
theorem dX12_comesOn_233 : decode cX12_comesOn 233 = .ok (.iconst 0, 1) := by decide +kernel
theorem dX12_comesOn_234 : decode cX12_comesOn 234 = .ok (.iastore, 1) := by decide +kernel
theorem dX12_comesOn_235 : decode cX12_comesOn 235 = .ok (.iconst 1, 1) := by decide +kernel
theorem dX12_comesOn_236 : decode cX12_comesOn 236 = .ok (.ireturn, 1) := by decide +kernel
theorem dX12_on_0 : decode cX12_on 0 = .ok (.aload_n 0, 1) := by decide +kernel
theorem dX12_on_1 : decode cX12_on 1 = .ok (.getfield 13, 3) := by decide +kernel
theorem dX12_on_4 : decode cX12_on 4 = .ok (.istore_n 1, 1) := by decide +kernel
theorem dX12_on_5 : decode cX12_on 5 = .ok (.aload_n 0, 1) := by decide +kernel
theorem dX12_on_6 : decode cX12_on 6 = .ok (.iconst 0, 1) := by decide +kernel
theorem dX12_on_7 : decode cX12_on 7 = .ok (.putfield 13, 3) := by decide +kernel
theorem dX12_on_10 : decode cX12_on 10 = .ok (.aload_n 0, 1) := by decide +kernel
theorem dX12_on_11 : decode cX12_on 11 = .ok (.iload_n 1, 1) := by decide +kernel
theorem dX12_on_12 : decode cX12_on 12 = .ok (.invokevirtual 645, 3) := by decide +kernel
theorem dX12_on_15 : decode cX12_on 15 = .ok (.ifCond .ne 17, 3) := by decide +kernel
theorem dX12_on_18 : decode cX12_on 18 = .ok (.aload_n 0, 1) := by decide +kernel
theorem dX12_on_19 : decode cX12_on 19 = .ok (.iconst 5, 1) := by decide +kernel
theorem dX12_on_20 : decode cX12_on 20 = .ok (.invokevirtual 312, 3) := by decide +kernel
theorem dX12_on_23 : decode cX12_on 23 = .ok (.ifCond .lt 7, 3) := by decide +kernel
theorem dX12_on_30 : decode cX12_on 30 = .ok (.iconst 0, 1) := by decide +kernel
theorem dX12_on_31 : decode cX12_on 31 = .ok (.ireturn, 1) := by decide +kernel
theorem dX12_on_32 : decode cX12_on 32 = .ok (.aload_n 0, 1) := by decide +kernel
theorem dX12_on_33 : decode cX12_on 33 = .ok (.iconst 0, 1) := by decide +kernel
theorem dX12_on_34 : decode cX12_on 34 = .ok (.iconst 1, 1) := by decide +kernel
theorem dX12_on_35 : decode cX12_on 35 = .ok (.invokevirtual 472, 3) := by decide +kernel
theorem dX12_on_38 : decode cX12_on 38 = .ok (.aload_n 0, 1) := by decide +kernel
theorem dX12_on_39 : decode cX12_on 39 = .ok (.iconst 0, 1) := by decide +kernel
theorem dX12_on_40 : decode cX12_on 40 = .ok (.putfield 194, 3) := by decide +kernel
theorem dX12_on_43 : decode cX12_on 43 = .ok (.iconst 1, 1) := by decide +kernel
theorem dX12_on_44 : decode cX12_on 44 = .ok (.ireturn, 1) := by decide +kernel
theorem dJ6_bitCount_0f7a4_0 : decode cJ6_bitCount_0f7a4 0 = .ok (.iload_n 0, 1) := by decide +kernel
theorem dJ6_bitCount_0f7a4_1 : decode cJ6_bitCount_0f7a4 1 = .ok (.iload_n 0, 1) := by decide +kernel
theorem dJ6_bitCount_0f7a4_2 : decode cJ6_bitCount_0f7a4 2 = .ok (.iconst 1, 1) := by decide +kernel
theorem dJ6_bitCount_0f7a4_3 : decode cJ6_bitCount_0f7a4 3 = .ok (.iushr, 1) := by decide +kernel
theorem dJ6_bitCount_0f7a4_4 : decode cJ6_bitCount_0f7a4 4 = .ok (.ldc_w 265, 3) := by decide +kernel
theorem dJ6_bitCount_0f7a4_7 : decode cJ6_bitCount_0f7a4 7 = .ok (.iand, 1) := by decide +kernel
theorem dJ6_bitCount_0f7a4_8 : decode cJ6_bitCount_0f7a4 8 = .ok (.isub, 1) := by decide +kernel
theorem dJ6_bitCount_0f7a4_9 : decode cJ6_bitCount_0f7a4 9 = .ok (.istore_n 0, 1) := by decide +kernel
theorem dJ6_bitCount_0f7a4_10 : decode cJ6_bitCount_0f7a4 10 = .ok (.iload_n 0, 1) := by decide +kernel
theorem dJ6_bitCount_0f7a4_11 : decode cJ6_bitCount_0f7a4 11 = .ok (.ldc_w 266, 3) := by decide +kernel
theorem dJ6_bitCount_0f7a4_14 : decode cJ6_bitCount_0f7a4 14 = .ok (.iand, 1) := by decide +kernel
theorem dJ6_bitCount_0f7a4_15 : decode cJ6_bitCount_0f7a4 15 = .ok (.iload_n 0, 1) := by decide +kernel
theorem dJ6_bitCount_0f7a4_16 : decode cJ6_bitCount_0f7a4 16 = .ok (.iconst 2, 1) := by decide +kernel
theorem dJ6_bitCount_0f7a4_17 : decode cJ6_bitCount_0f7a4 17 = .ok (.iushr, 1) := by decide +kernel
theorem dJ6_bitCount_0f7a4_18 : decode cJ6_bitCount_0f7a4 18 = .ok (.ldc_w 266, 3) := by decide +kernel
theorem dJ6_bitCount_0f7a4_21 : decode cJ6_bitCount_0f7a4 21 = .ok (.iand, 1) := by decide +kernel
theorem dJ6_bitCount_0f7a4_22 : decode cJ6_bitCount_0f7a4 22 = .ok (.iadd, 1) := by decide +kernel
theorem dJ6_bitCount_0f7a4_23 : decode cJ6_bitCount_0f7a4 23 = .ok (.istore_n 0, 1) := by decide +kernel
theorem dJ6_bitCount_0f7a4_24 : decode cJ6_bitCount_0f7a4 24 = .ok (.iload_n 0, 1) := by decide +kernel
theorem dJ6_bitCount_0f7a4_25 : decode cJ6_bitCount_0f7a4 25 = .ok (.iload_n 0, 1) := by decide +kernel
end
section
theorem dJ6_bitCount_0f7a4_26 : decode cJ6_bitCount_0f7a4 26 = .ok (.iconst 4, 1) := by decide +kernel
theorem dJ6_bitCount_0f7a4_27 : decode cJ6_bitCount_0f7a4 27 = .ok (.iushr, 1) := by decide +kernel
theorem dJ6_bitCount_0f7a4_28 : decode cJ6_bitCount_0f7a4 28 = .ok (.iadd, 1) := by decide +kernel
theorem dJ6_bitCount_0f7a4_29 : decode cJ6_bitCount_0f7a4 29 = .ok (.ldc_w 267, 3) := by decide +kernel
theorem dJ6_bitCount_0f7a4_32 : decode cJ6_bitCount_0f7a4 32 = .ok (.iand, 1) := by decide +kernel
theorem dJ6_bitCount_0f7a4_33 : decode cJ6_bitCount_0f7a4 33 = .ok (.istore_n 0, 1) := by decide +kernel
theorem dJ6_bitCount_0f7a4_34 : decode cJ6_bitCount_0f7a4 34 = .ok (.iload_n 0, 1) := by decide +kernel
theorem dJ6_bitCount_0f7a4_35 : decode cJ6_bitCount_0f7a4 35 = .ok (.iload_n 0, 1) := by decide +kernel
theorem dJ6_bitCount_0f7a4_36 : decode cJ6_bitCount_0f7a4 36 = .ok (.bipush 8, 2) := by decide +kernel
theorem dJ6_bitCount_0f7a4_38 : decode cJ6_bitCount_0f7a4 38 = .ok (.iushr, 1) := by decide +kernel
theorem dJ6_bitCount_0f7a4_39 : decode cJ6_bitCount_0f7a4 39 = .ok (.iadd, 1) := by decide +kernel
theorem dJ6_bitCount_0f7a4_40 : decode cJ6_bitCount_0f7a4 40 = .ok (.istore_n 0, 1) := by decide +kernel
theorem dJ6_bitCount_0f7a4_41 : decode cJ6_bitCount_0f7a4 41 = .ok (.iload_n 0, 1) := by decide +kernel
theorem dJ6_bitCount_0f7a4_42 : decode cJ6_bitCount_0f7a4 42 = .ok (.iload_n 0, 1) := by decide +kernel
theorem dJ6_bitCount_0f7a4_43 : decode cJ6_bitCount_0f7a4 43 = .ok (.bipush 16, 2) := by decide +kernel
theorem dJ6_bitCount_0f7a4_45 : decode cJ6_bitCount_0f7a4 45 = .ok (.iushr, 1) := by decide +kernel
theorem dJ6_bitCount_0f7a4_46 : decode cJ6_bitCount_0f7a4 46 = .ok (.iadd, 1) := by decide +kernel
theorem dJ6_bitCount_0f7a4_47 : decode cJ6_bitCount_0f7a4 47 = .ok (.istore_n 0, 1) := by decide +kernel
theorem dJ6_bitCount_0f7a4_48 : decode cJ6_bitCount_0f7a4 48 = .ok (.iload_n 0, 1) := by decide +kernel
theorem dJ6_bitCount_0f7a4_49 : decode cJ6_bitCount_0f7a4 49 = .ok (.bipush 63, 2) := by decide +kernel
theorem dJ6_bitCount_0f7a4_51 : decode cJ6_bitCount_0f7a4 51 = .ok (.iand, 1) := by decide +kernel
theorem dJ6_bitCount_0f7a4_52 : decode cJ6_bitCount_0f7a4 52 = .ok (.ireturn, 1) := by decide +kernel
theorem dJ9_floorMod_7cf53_0 : decode cJ9_floorMod_7cf53 0 = .ok (.iload_n 0, 1) := by decide +kernel
theorem dJ9_floorMod_7cf53_1 : decode cJ9_floorMod_7cf53 1 = .ok (.iload_n 1, 1) := by decide +kernel
theorem dJ9_floorMod_7cf53_2 : decode cJ9_floorMod_7cf53 2 = .ok (.irem, 1) := by decide +kernel
theorem dJ9_floorMod_7cf53_3 : decode cJ9_floorMod_7cf53 3 = .ok (.istore_n 2, 1) := by decide +kernel
theorem dJ9_floorMod_7cf53_4 : decode cJ9_floorMod_7cf53 4 = .ok (.iload_n 0, 1) := by decide +kernel
theorem dJ9_floorMod_7cf53_5 : decode cJ9_floorMod_7cf53 5 = .ok (.iload_n 1, 1) := by decide +kernel
theorem dJ9_floorMod_7cf53_6 : decode cJ9_floorMod_7cf53 6 = .ok (.ixor, 1) := by decide +kernel
theorem dJ9_floorMod_7cf53_7 : decode cJ9_floorMod_7cf53 7 = .ok (.ifCond .ge 11, 3) := by decide +kernel
theorem dJ9_floorMod_7cf53_10 : decode cJ9_floorMod_7cf53 10 = .ok (.iload_n 2, 1) := by decide +kernel
theorem dJ9_floorMod_7cf53_11 : decode cJ9_floorMod_7cf53 11 = .ok (.ifCond .eq 7, 3) := by decide +kernel
theorem dJ9_floorMod_7cf53_14 : decode cJ9_floorMod_7cf53 14 = .ok (.iload_n 2, 1) := by decide +kernel
theorem dJ9_floorMod_7cf53_15 : decode cJ9_floorMod_7cf53 15 = .ok (.iload_n 1, 1) := by decide +kernel
theorem dJ9_floorMod_7cf53_16 : decode cJ9_floorMod_7cf53 16 = .ok (.iadd, 1) := by decide +kernel
theorem dJ9_floorMod_7cf53_17 : decode cJ9_floorMod_7cf53 17 = .ok (.ireturn, 1) := by decide +kernel
theorem dJ9_floorMod_7cf53_18 : decode cJ9_floorMod_7cf53 18 = .ok (.iload_n 2, 1) := by decide +kernel
theorem dJ9_floorMod_7cf53_19 : decode cJ9_floorMod_7cf53 19 = .ok (.ireturn, 1) := by decide +kernel
theorem dJ9_max_7cf53_0 : decode cJ9_max_7cf53 0 = .ok (.iload_n 0, 1) := by decide +kernel
theorem dJ9_max_7cf53_1 : decode cJ9_max_7cf53 1 = .ok (.iload_n 1, 1) := by decide +kernel
theorem dJ9_max_7cf53_2 : decode cJ9_max_7cf53 2 = .ok (.if_icmp .lt 7, 3) := by decide +kernel
theorem dJ9_max_7cf53_5 : decode cJ9_max_7cf53 5 = .ok (.iload_n 0, 1) := by decide +kernel
theorem dJ9_max_7cf53_6 : decode cJ9_max_7cf53 6 = .ok (.goto 4, 3) := by decide +kernel
theorem dJ9_max_7cf53_9 : decode cJ9_max_7cf53 9 = .ok (.iload_n 1, 1) := by decide +kernel
theorem dJ9_max_7cf53_10 : decode cJ9_max_7cf53 10 = .ok (.ireturn, 1) := by decide +kernel
theorem dJ9_min_7cf53_0 : decode cJ9_min_7cf53 0 = .ok (.iload_n 0, 1) := by decide +kernel
theorem dJ9_min_7cf53_1 : decode cJ9_min_7cf53 1 = .ok (.iload_n 1, 1) := by decide +kernel
theorem dJ9_min_7cf53_2 : decode cJ9_min_7cf53 2 = .ok (.if_icmp .gt 7, 3) := by decide +kernel
theorem dJ9_min_7cf53_5 : decode cJ9_min_7cf53 5 = .ok (.iload_n 0, 1) := by decide +kernel
theorem dJ9_min_7cf53_6 : decode cJ9_min_7cf53 6 = .ok (.goto 4, 3) := by decide +kernel
theorem dJ9_min_7cf53_9 : decode cJ9_min_7cf53 9 = .ok (.iload_n 1, 1) := by decide +kernel
theorem dJ9_min_7cf53_10 : decode cJ9_min_7cf53 10 = .ok (.ireturn, 1) := by decide +kernel
theorem dJ0_length_8abf5_0 : decode cJ0_length_8abf5 0 = .ok (.aload_n 0, 1) := by decide +kernel
theorem dJ0_length_8abf5_1 : decode cJ0_length_8abf5 1 = .ok (.getfield 9, 3) := by decide +kernel
theorem dJ0_length_8abf5_4 : decode cJ0_length_8abf5 4 = .ok (.arraylength, 1) := by decide +kernel
theorem dJ0_length_8abf5_5 : decode cJ0_length_8abf5 5 = .ok (.aload_n 0, 1) := by decide +kernel
theorem dJ0_length_8abf5_6 : decode cJ0_length_8abf5 6 = .ok (.invokevirtual 335, 3) := by decide +kernel
theorem dJ0_length_8abf5_9 : decode cJ0_length_8abf5 9 = .ok (.ishr, 1) := by decide +kernel
theorem dJ0_length_8abf5_10 : decode cJ0_length_8abf5 10 = .ok (.ireturn, 1) := by decide +kernel
theorem dJ0_charAt_5068e_0 : decode cJ0_charAt_5068e 0 = .ok (.aload_n 0, 1) := by decide +kernel
theorem dJ0_charAt_5068e_1 : decode cJ0_charAt_5068e 1 = .ok (.invokevirtual 492, 3) := by decide +kernel
theorem dJ0_charAt_5068e_4 : decode cJ0_charAt_5068e 4 = .ok (.ifCond .eq 12, 3) := by decide +kernel
theorem dJ0_charAt_5068e_7 : decode cJ0_charAt_5068e 7 = .ok (.aload_n 0, 1) := by decide +kernel
theorem dJ0_charAt_5068e_8 : decode cJ0_charAt_5068e 8 = .ok (.getfield 9, 3) := by decide +kernel
theorem dJ0_charAt_5068e_11 : decode cJ0_charAt_5068e 11 = .ok (.iload_n 1, 1) := by decide +kernel
theorem dJ0_charAt_5068e_12 : decode cJ0_charAt_5068e 12 = .ok (.invokestatic 495, 3) := by decide +kernel
theorem dJ0_charAt_5068e_15 : decode cJ0_charAt_5068e 15 = .ok (.ireturn, 1) := by decide +kernel
theorem dJ0_coder_7d493_0 : decode cJ0_coder_7d493 0 = .ok (.getstatic 38, 3) := by decide +kernel
theorem dJ0_coder_7d493_3 : decode cJ0_coder_7d493 3 = .ok (.ifCond .eq 10, 3) := by decide +kernel
theorem dJ0_coder_7d493_6 : decode cJ0_coder_7d493 6 = .ok (.aload_n 0, 1) := by decide +kernel
theorem dJ0_coder_7d493_7 : decode cJ0_coder_7d493 7 = .ok (.getfield 15, 3) := by decide +kernel
theorem dJ0_coder_7d493_10 : decode cJ0_coder_7d493 10 = .ok (.goto 4, 3) := by decide +kernel
theorem dJ0_coder_7d493_14 : decode cJ0_coder_7d493 14 = .ok (.ireturn, 1) := by decide +kernel
theorem dJ0_isLatin1_aae02_0 : decode cJ0_isLatin1_aae02 0 = .ok (.getstatic 38, 3) := by decide +kernel
theorem dJ0_isLatin1_aae02_3 : decode cJ0_isLatin1_aae02 3 = .ok (.ifCond .eq 14, 3) := by decide +kernel
theorem dJ0_isLatin1_aae02_6 : decode cJ0_isLatin1_aae02 6 = .ok (.aload_n 0, 1) := by decide +kernel
theorem dJ0_isLatin1_aae02_7 : decode cJ0_isLatin1_aae02 7 = .ok (.getfield 15, 3) := by decide +kernel
theorem dJ0_isLatin1_aae02_10 : decode cJ0_isLatin1_aae02 10 = .ok (.ifCond .ne 7, 3) := by decide +kernel
theorem dJ0_isLatin1_aae02_13 : decode cJ0_isLatin1_aae02 13 = .ok (.iconst 1, 1) := by decide +kernel
theorem dJ0_isLatin1_aae02_14 : decode cJ0_isLatin1_aae02 14 = .ok (.goto 4, 3) := by decide +kernel
theorem dJ0_isLatin1_aae02_18 : decode cJ0_isLatin1_aae02 18 = .ok (.ireturn, 1) := by decide +kernel
theorem dJ0_checkIndex_df160_0 : decode cJ0_checkIndex_df160 0 = .ok (.iload_n 0, 1) := by decide +kernel
theorem dJ0_checkIndex_df160_1 : decode cJ0_checkIndex_df160 1 = .ok (.iload_n 1, 1) := by decide +kernel
theorem dJ0_checkIndex_df160_2 : decode cJ0_checkIndex_df160 2 = .ok (.getstatic 1053, 3) := by decide +kernel
theorem dJ0_checkIndex_df160_5 : decode cJ0_checkIndex_df160 5 = .ok (.invokestatic 1059, 3) := by decide +kernel
theorem dJ0_checkIndex_df160_8 : decode cJ0_checkIndex_df160 8 = .ok (.pop, 1) := by decide +kernel
theorem dJ0_checkIndex_df160_9 : decode cJ0_checkIndex_df160 9 = .ok (.return_, 1) := by decide +kernel
theorem dJ1_charAt_3b067_0 : decode cJ1_charAt_3b067 0 = .ok (.iload_n 1, 1) := by decide +kernel
theorem dJ1_charAt_3b067_1 : decode cJ1_charAt_3b067 1 = .ok (.aload_n 0, 1) := by decide +kernel
theorem dJ1_charAt_3b067_2 : decode cJ1_charAt_3b067 2 = .ok (.arraylength, 1) := by decide +kernel
theorem dJ1_charAt_3b067_3 : decode cJ1_charAt_3b067 3 = .ok (.invokestatic 9, 3) := by decide +kernel
theorem dJ1_charAt_3b067_6 : decode cJ1_charAt_3b067 6 = .ok (.aload_n 0, 1) := by decide +kernel
theorem dJ1_charAt_3b067_7 : decode cJ1_charAt_3b067 7 = .ok (.iload_n 1, 1) := by decide +kernel
theorem dJ1_charAt_3b067_8 : decode cJ1_charAt_3b067 8 = .ok (.baload, 1) := by decide +kernel
theorem dJ1_charAt_3b067_9 : decode cJ1_charAt_3b067 9 = .ok (.sipush 255, 3) := by decide +kernel
theorem dJ1_charAt_3b067_12 : decode cJ1_charAt_3b067 12 = .ok (.iand, 1) := by decide +kernel
theorem dJ1_charAt_3b067_13 : decode cJ1_charAt_3b067 13 = .ok (.i2c, 1) := by decide +kernel
theorem dJ1_charAt_3b067_14 : decode cJ1_charAt_3b067 14 = .ok (.ireturn, 1) := by decide +kernel
theorem dJ3_checkIndex_8e157_0 : decode cJ3_checkIndex_8e157 0 = .ok (.iload_n 0, 1) := by decide +kernel
theorem dJ3_checkIndex_8e157_1 : decode cJ3_checkIndex_8e157 1 = .ok (.ifCond .lt 8, 3) := by decide +kernel
theorem dJ3_checkIndex_8e157_4 : decode cJ3_checkIndex_8e157 4 = .ok (.iload_n 0, 1) := by decide +kernel
theorem dJ3_checkIndex_8e157_5 : decode cJ3_checkIndex_8e157 5 = .ok (.iload_n 1, 1) := by decide +kernel
theorem dJ3_checkIndex_8e157_6 : decode cJ3_checkIndex_8e157 6 = .ok (.if_icmp .lt 10, 3) := by decide +kernel
theorem dJ3_checkIndex_8e157_16 : decode cJ3_checkIndex_8e157 16 = .ok (.iload_n 0, 1) := by decide +kernel
theorem dJ3_checkIndex_8e157_17 : decode cJ3_checkIndex_8e157 17 = .ok (.ireturn, 1) := by decide +kernel
end
