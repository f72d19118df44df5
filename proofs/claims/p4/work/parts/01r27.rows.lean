theorem dX12_see_212 : decode cX12_see 212 = .ok (.goto (-75), 3) := by decide +kernel
theorem dX12_see_215 : decode cX12_see 215 = .ok (.aload_n 0, 1) := by decide +kernel
theorem dX12_see_216 : decode cX12_see 216 = .ok (.getfield 291, 3) := by decide +kernel
theorem dX12_see_219 : decode cX12_see 219 = .ok (.ireturn, 1) := by decide +kernel
theorem dX12_leaves_0 : decode cX12_leaves 0 = .ok (.aload_n 0, 1) := by decide +kernel
theorem dX12_leaves_1 : decode cX12_leaves 1 = .ok (.iconst 0, 1) := by decide +kernel
theorem dX12_leaves_2 : decode cX12_leaves 2 = .ok (.invokevirtual 501, 3) := by decide +kernel
theorem dX12_leaves_5 : decode cX12_leaves 5 = .ok (.iconst 0, 1) := by decide +kernel
theorem dX12_leaves_6 : decode cX12_leaves 6 = .ok (.istore_n 1, 1) := by decide +kernel
theorem dX12_leaves_7 : decode cX12_leaves 7 = .ok (.iconst 0, 1) := by decide +kernel
theorem dX12_leaves_8 : decode cX12_leaves 8 = .ok (.istore_n 2, 1) := by decide +kernel
theorem dX12_leaves_9 : decode cX12_leaves 9 = .ok (.iload_n 2, 1) := by decide +kernel
theorem dX12_leaves_10 : decode cX12_leaves 10 = .ok (.sipush 256, 3) := by decide +kernel
theorem dX12_leaves_13 : decode cX12_leaves 13 = .ok (.if_icmp .ge 27, 3) := by decide +kernel
theorem dX12_leaves_16 : decode cX12_leaves 16 = .ok (.aload_n 0, 1) := by decide +kernel
theorem dX12_leaves_17 : decode cX12_leaves 17 = .ok (.getfield 300, 3) := by decide +kernel
theorem dX12_leaves_20 : decode cX12_leaves 20 = .ok (.iload_n 2, 1) := by decide +kernel
theorem dX12_leaves_21 : decode cX12_leaves 21 = .ok (.iconst 1, 1) := by decide +kernel
theorem dX12_leaves_22 : decode cX12_leaves 22 = .ok (.iastore, 1) := by decide +kernel
theorem dX12_leaves_23 : decode cX12_leaves 23 = .ok (.aload_n 0, 1) := by decide +kernel
theorem dX12_leaves_24 : decode cX12_leaves 24 = .ok (.getfield 303, 3) := by decide +kernel
theorem dX12_leaves_27 : decode cX12_leaves 27 = .ok (.iload_n 2, 1) := by decide +kernel
theorem dX12_leaves_28 : decode cX12_leaves 28 = .ok (.aload_n 0, 1) := by decide +kernel
theorem dX12_leaves_29 : decode cX12_leaves 29 = .ok (.iload_n 2, 1) := by decide +kernel
theorem dX12_leaves_30 : decode cX12_leaves 30 = .ok (.invokevirtual 492, 3) := by decide +kernel
theorem dX12_leaves_33 : decode cX12_leaves 33 = .ok (.iastore, 1) := by decide +kernel
theorem dX12_leaves_34 : decode cX12_leaves 34 = .ok (.iinc 2 1, 3) := by decide +kernel
theorem dX12_leaves_37 : decode cX12_leaves 37 = .ok (.goto (-28), 3) := by decide +kernel
theorem dX12_leaves_40 : decode cX12_leaves 40 = .ok (.iconst 0, 1) := by decide +kernel
theorem dX12_leaves_41 : decode cX12_leaves 41 = .ok (.istore_n 2, 1) := by decide +kernel
theorem dX12_leaves_42 : decode cX12_leaves 42 = .ok (.iload_n 2, 1) := by decide +kernel
theorem dX12_leaves_43 : decode cX12_leaves 43 = .ok (.aload_n 0, 1) := by decide +kernel
theorem dX12_leaves_44 : decode cX12_leaves 44 = .ok (.getfield 291, 3) := by decide +kernel
theorem dX12_leaves_47 : decode cX12_leaves 47 = .ok (.if_icmp .ge 66, 3) := by decide +kernel
theorem dX12_leaves_50 : decode cX12_leaves 50 = .ok (.aload_n 0, 1) := by decide +kernel
theorem dX12_leaves_51 : decode cX12_leaves 51 = .ok (.aload_n 0, 1) := by decide +kernel
theorem dX12_leaves_52 : decode cX12_leaves 52 = .ok (.getfield 294, 3) := by decide +kernel
theorem dX12_leaves_55 : decode cX12_leaves 55 = .ok (.iload_n 2, 1) := by decide +kernel
theorem dX12_leaves_56 : decode cX12_leaves 56 = .ok (.iaload, 1) := by decide +kernel
theorem dX12_leaves_57 : decode cX12_leaves 57 = .ok (.invokevirtual 484, 3) := by decide +kernel
theorem dX12_leaves_60 : decode cX12_leaves 60 = .ok (.istore_n 3, 1) := by decide +kernel
theorem dX12_leaves_61 : decode cX12_leaves 61 = .ok (.iconst 0, 1) := by decide +kernel
theorem dX12_leaves_62 : decode cX12_leaves 62 = .ok (.istore 4, 2) := by decide +kernel
theorem dX12_leaves_64 : decode cX12_leaves 64 = .ok (.iload 4, 2) := by decide +kernel
theorem dX12_leaves_66 : decode cX12_leaves 66 = .ok (.sipush 256, 3) := by decide +kernel
theorem dX12_leaves_69 : decode cX12_leaves 69 = .ok (.if_icmp .ge 38, 3) := by decide +kernel
theorem dX12_leaves_72 : decode cX12_leaves 72 = .ok (.iload_n 3, 1) := by decide +kernel
theorem dX12_leaves_73 : decode cX12_leaves 73 = .ok (.aload_n 0, 1) := by decide +kernel
theorem dX12_leaves_74 : decode cX12_leaves 74 = .ok (.getfield 303, 3) := by decide +kernel
theorem dX12_leaves_77 : decode cX12_leaves 77 = .ok (.iload 4, 2) := by decide +kernel
theorem dX12_leaves_79 : decode cX12_leaves 79 = .ok (.iaload, 1) := by decide +kernel
theorem dX12_leaves_80 : decode cX12_leaves 80 = .ok (.iand, 1) := by decide +kernel
theorem dX12_leaves_81 : decode cX12_leaves 81 = .ok (.invokestatic 495, 3) := by decide +kernel
theorem dX12_leaves_84 : decode cX12_leaves 84 = .ok (.aload_n 0, 1) := by decide +kernel
theorem dX12_leaves_85 : decode cX12_leaves 85 = .ok (.getfield 297, 3) := by decide +kernel
theorem dX12_leaves_88 : decode cX12_leaves 88 = .ok (.iload_n 2, 1) := by decide +kernel
theorem dX12_leaves_89 : decode cX12_leaves 89 = .ok (.iaload, 1) := by decide +kernel
theorem dX12_leaves_90 : decode cX12_leaves 90 = .ok (.if_icmp .eq 11, 3) := by decide +kernel
theorem dX12_leaves_93 : decode cX12_leaves 93 = .ok (.aload_n 0, 1) := by decide +kernel
theorem dX12_leaves_94 : decode cX12_leaves 94 = .ok (.getfield 300, 3) := by decide +kernel
theorem dX12_leaves_97 : decode cX12_leaves 97 = .ok (.iload 4, 2) := by decide +kernel
theorem dX12_leaves_99 : decode cX12_leaves 99 = .ok (.iconst 0, 1) := by decide +kernel
theorem dX12_leaves_100 : decode cX12_leaves 100 = .ok (.iastore, 1) := by decide +kernel
theorem dX12_leaves_101 : decode cX12_leaves 101 = .ok (.iinc 4 1, 3) := by decide +kernel
theorem dX12_leaves_104 : decode cX12_leaves 104 = .ok (.goto (-40), 3) := by decide +kernel
theorem dX12_leaves_107 : decode cX12_leaves 107 = .ok (.iinc 2 1, 3) := by decide +kernel
theorem dX12_leaves_110 : decode cX12_leaves 110 = .ok (.goto (-68), 3) := by decide +kernel
theorem dX12_leaves_113 : decode cX12_leaves 113 = .ok (.iconst 0, 1) := by decide +kernel
theorem dX12_leaves_114 : decode cX12_leaves 114 = .ok (.istore_n 2, 1) := by decide +kernel
theorem dX12_leaves_115 : decode cX12_leaves 115 = .ok (.iload_n 2, 1) := by decide +kernel
theorem dX12_leaves_116 : decode cX12_leaves 116 = .ok (.sipush 256, 3) := by decide +kernel
theorem dX12_leaves_119 : decode cX12_leaves 119 = .ok (.if_icmp .ge 18, 3) := by decide +kernel
theorem dX12_leaves_122 : decode cX12_leaves 122 = .ok (.iload_n 1, 1) := by decide +kernel
theorem dX12_leaves_123 : decode cX12_leaves 123 = .ok (.aload_n 0, 1) := by decide +kernel
theorem dX12_leaves_124 : decode cX12_leaves 124 = .ok (.getfield 300, 3) := by decide +kernel
theorem dX12_leaves_127 : decode cX12_leaves 127 = .ok (.iload_n 2, 1) := by decide +kernel
theorem dX12_leaves_128 : decode cX12_leaves 128 = .ok (.iaload, 1) := by decide +kernel
theorem dX12_leaves_129 : decode cX12_leaves 129 = .ok (.iadd, 1) := by decide +kernel
theorem dX12_leaves_130 : decode cX12_leaves 130 = .ok (.istore_n 1, 1) := by decide +kernel
theorem dX12_leaves_131 : decode cX12_leaves 131 = .ok (.iinc 2 1, 3) := by decide +kernel
theorem dX12_leaves_134 : decode cX12_leaves 134 = .ok (.goto (-19), 3) := by decide +kernel
theorem dX12_leaves_137 : decode cX12_leaves 137 = .ok (.iload_n 1, 1) := by decide +kernel
theorem dX12_leaves_138 : decode cX12_leaves 138 = .ok (.ireturn, 1) := by decide +kernel
theorem dX12_sets_0 : decode cX12_sets 0 = .ok (.aload_n 0, 1) := by decide +kernel
theorem dX12_sets_1 : decode cX12_sets 1 = .ok (.getfield 146, 3) := by decide +kernel
theorem dX12_sets_4 : decode cX12_sets 4 = .ok (.ifCond .eq 8, 3) := by decide +kernel
theorem dX12_sets_7 : decode cX12_sets 7 = .ok (.iload_n 1, 1) := by decide +kernel
theorem dX12_sets_8 : decode cX12_sets 8 = .ok (.iconst (-1), 1) := by decide +kernel
theorem dX12_sets_9 : decode cX12_sets 9 = .ok (.if_icmp .ge 5, 3) := by decide +kernel
theorem dX12_sets_12 : decode cX12_sets 12 = .ok (.iconst (-1), 1) := by decide +kernel
theorem dX12_sets_13 : decode cX12_sets 13 = .ok (.ireturn, 1) := by decide +kernel
theorem dX12_sets_14 : decode cX12_sets 14 = .ok (.aload_n 0, 1) := by decide +kernel
theorem dX12_sets_15 : decode cX12_sets 15 = .ok (.invokevirtual 621, 3) := by decide +kernel
theorem dX12_sets_18 : decode cX12_sets 18 = .ok (.istore_n 2, 1) := by decide +kernel
theorem dX12_sets_19 : decode cX12_sets 19 = .ok (.iload_n 1, 1) := by decide +kernel
theorem dX12_sets_20 : decode cX12_sets 20 = .ok (.iconst (-1), 1) := by decide +kernel
theorem dX12_sets_21 : decode cX12_sets 21 = .ok (.if_icmp .ne 5, 3) := by decide +kernel
theorem dX12_sets_24 : decode cX12_sets 24 = .ok (.iload_n 2, 1) := by decide +kernel
theorem dX12_sets_25 : decode cX12_sets 25 = .ok (.ireturn, 1) := by decide +kernel
theorem dX12_sets_26 : decode cX12_sets 26 = .ok (.iconst 0, 1) := by decide +kernel
theorem dX12_sets_27 : decode cX12_sets 27 = .ok (.istore_n 3, 1) := by decide +kernel
theorem dX12_sets_28 : decode cX12_sets 28 = .ok (.iconst 0, 1) := by decide +kernel
theorem dX12_sets_29 : decode cX12_sets 29 = .ok (.istore 4, 2) := by decide +kernel
theorem dX12_sets_31 : decode cX12_sets 31 = .ok (.iload 4, 2) := by decide +kernel
theorem dX12_sets_33 : decode cX12_sets 33 = .ok (.sipush 256, 3) := by decide +kernel
theorem dX12_sets_36 : decode cX12_sets 36 = .ok (.if_icmp .ge 38, 3) := by decide +kernel
theorem dX12_sets_39 : decode cX12_sets 39 = .ok (.aload_n 0, 1) := by decide +kernel
theorem dX12_sets_40 : decode cX12_sets 40 = .ok (.getfield 300, 3) := by decide +kernel
theorem dX12_sets_43 : decode cX12_sets 43 = .ok (.iload 4, 2) := by decide +kernel
theorem dX12_sets_45 : decode cX12_sets 45 = .ok (.iaload, 1) := by decide +kernel
theorem dX12_sets_46 : decode cX12_sets 46 = .ok (.iconst 1, 1) := by decide +kernel
theorem dX12_sets_47 : decode cX12_sets 47 = .ok (.if_icmp .ne 11, 3) := by decide +kernel
theorem dX12_sets_50 : decode cX12_sets 50 = .ok (.iload_n 3, 1) := by decide +kernel
theorem dX12_sets_51 : decode cX12_sets 51 = .ok (.iload_n 1, 1) := by decide +kernel
theorem dX12_sets_52 : decode cX12_sets 52 = .ok (.if_icmp .ne 6, 3) := by decide +kernel
theorem dX12_sets_55 : decode cX12_sets 55 = .ok (.iload 4, 2) := by decide +kernel
theorem dX12_sets_57 : decode cX12_sets 57 = .ok (.ireturn, 1) := by decide +kernel
theorem dX12_sets_58 : decode cX12_sets 58 = .ok (.iload_n 3, 1) := by decide +kernel
theorem dX12_sets_59 : decode cX12_sets 59 = .ok (.aload_n 0, 1) := by decide +kernel
theorem dX12_sets_60 : decode cX12_sets 60 = .ok (.getfield 300, 3) := by decide +kernel
theorem dX12_sets_63 : decode cX12_sets 63 = .ok (.iload 4, 2) := by decide +kernel
theorem dX12_sets_65 : decode cX12_sets 65 = .ok (.iaload, 1) := by decide +kernel
theorem dX12_sets_66 : decode cX12_sets 66 = .ok (.iadd, 1) := by decide +kernel
theorem dX12_sets_67 : decode cX12_sets 67 = .ok (.istore_n 3, 1) := by decide +kernel
theorem dX12_sets_68 : decode cX12_sets 68 = .ok (.iinc 4 1, 3) := by decide +kernel
theorem dX12_sets_71 : decode cX12_sets 71 = .ok (.goto (-40), 3) := by decide +kernel
theorem dX12_sets_74 : decode cX12_sets 74 = .ok (.iconst (-1), 1) := by decide +kernel
theorem dX12_sets_75 : decode cX12_sets 75 = .ok (.ireturn, 1) := by decide +kernel
theorem dX12_mostBy_0 : decode cX12_mostBy 0 = .ok (.aload_n 0, 1) := by decide +kernel
theorem dX12_mostBy_1 : decode cX12_mostBy 1 = .ok (.iload_n 1, 1) := by decide +kernel
theorem dX12_mostBy_2 : decode cX12_mostBy 2 = .ok (.invokevirtual 484, 3) := by decide +kernel
theorem dX12_mostBy_5 : decode cX12_mostBy 5 = .ok (.istore_n 2, 1) := by decide +kernel
theorem dX12_mostBy_6 : decode cX12_mostBy 6 = .ok (.iconst 0, 1) := by decide +kernel
theorem dX12_mostBy_7 : decode cX12_mostBy 7 = .ok (.istore_n 3, 1) := by decide +kernel
theorem dX12_mostBy_8 : decode cX12_mostBy 8 = .ok (.iload_n 3, 1) := by decide +kernel
theorem dX12_mostBy_9 : decode cX12_mostBy 9 = .ok (.bipush 12, 2) := by decide +kernel
theorem dX12_mostBy_11 : decode cX12_mostBy 11 = .ok (.if_icmp .gt 16, 3) := by decide +kernel
theorem dX12_mostBy_14 : decode cX12_mostBy 14 = .ok (.aload_n 0, 1) := by decide +kernel
theorem dX12_mostBy_15 : decode cX12_mostBy 15 = .ok (.getfield 306, 3) := by decide +kernel
theorem dX12_mostBy_18 : decode cX12_mostBy 18 = .ok (.iload_n 3, 1) := by decide +kernel
theorem dX12_mostBy_19 : decode cX12_mostBy 19 = .ok (.iconst 0, 1) := by decide +kernel
theorem dX12_mostBy_20 : decode cX12_mostBy 20 = .ok (.iastore, 1) := by decide +kernel
theorem dX12_mostBy_21 : decode cX12_mostBy 21 = .ok (.iinc 3 1, 3) := by decide +kernel
theorem dX12_mostBy_24 : decode cX12_mostBy 24 = .ok (.goto (-16), 3) := by decide +kernel
theorem dX12_mostBy_27 : decode cX12_mostBy 27 = .ok (.iconst 0, 1) := by decide +kernel
theorem dX12_mostBy_28 : decode cX12_mostBy 28 = .ok (.istore_n 3, 1) := by decide +kernel
theorem dX12_mostBy_29 : decode cX12_mostBy 29 = .ok (.iconst 0, 1) := by decide +kernel
theorem dX12_mostBy_30 : decode cX12_mostBy 30 = .ok (.istore 4, 2) := by decide +kernel
theorem dX12_mostBy_32 : decode cX12_mostBy 32 = .ok (.iload 4, 2) := by decide +kernel
theorem dX12_mostBy_34 : decode cX12_mostBy 34 = .ok (.sipush 256, 3) := by decide +kernel
theorem dX12_mostBy_37 : decode cX12_mostBy 37 = .ok (.if_icmp .ge 72, 3) := by decide +kernel
theorem dX12_mostBy_40 : decode cX12_mostBy 40 = .ok (.aload_n 0, 1) := by decide +kernel
theorem dX12_mostBy_41 : decode cX12_mostBy 41 = .ok (.getfield 300, 3) := by decide +kernel
theorem dX12_mostBy_44 : decode cX12_mostBy 44 = .ok (.iload 4, 2) := by decide +kernel
theorem dX12_mostBy_46 : decode cX12_mostBy 46 = .ok (.iaload, 1) := by decide +kernel
theorem dX12_mostBy_47 : decode cX12_mostBy 47 = .ok (.ifCond .ne 6, 3) := by decide +kernel
theorem dX12_mostBy_50 : decode cX12_mostBy 50 = .ok (.goto 53, 3) := by decide +kernel
theorem dX12_mostBy_53 : decode cX12_mostBy 53 = .ok (.iload_n 2, 1) := by decide +kernel
theorem dX12_mostBy_54 : decode cX12_mostBy 54 = .ok (.aload_n 0, 1) := by decide +kernel
theorem dX12_mostBy_55 : decode cX12_mostBy 55 = .ok (.getfield 303, 3) := by decide +kernel
theorem dX12_mostBy_58 : decode cX12_mostBy 58 = .ok (.iload 4, 2) := by decide +kernel
theorem dX12_mostBy_60 : decode cX12_mostBy 60 = .ok (.iaload, 1) := by decide +kernel
theorem dX12_mostBy_61 : decode cX12_mostBy 61 = .ok (.iand, 1) := by decide +kernel
theorem dX12_mostBy_62 : decode cX12_mostBy 62 = .ok (.invokestatic 495, 3) := by decide +kernel
theorem dX12_mostBy_65 : decode cX12_mostBy 65 = .ok (.iconst 1, 1) := by decide +kernel
theorem dX12_mostBy_66 : decode cX12_mostBy 66 = .ok (.iadd, 1) := by decide +kernel
theorem dX12_mostBy_67 : decode cX12_mostBy 67 = .ok (.istore 5, 2) := by decide +kernel
theorem dX12_mostBy_69 : decode cX12_mostBy 69 = .ok (.aload_n 0, 1) := by decide +kernel
theorem dX12_mostBy_70 : decode cX12_mostBy 70 = .ok (.getfield 306, 3) := by decide +kernel
theorem dX12_mostBy_73 : decode cX12_mostBy 73 = .ok (.iload 5, 2) := by decide +kernel
theorem dX12_mostBy_75 : decode cX12_mostBy 75 = .ok (.dup2, 1) := by decide +kernel
theorem dX12_mostBy_76 : decode cX12_mostBy 76 = .ok (.iaload, 1) := by decide +kernel
theorem dX12_mostBy_77 : decode cX12_mostBy 77 = .ok (.iconst 1, 1) := by decide +kernel
theorem dX12_mostBy_78 : decode cX12_mostBy 78 = .ok (.iadd, 1) := by decide +kernel
theorem dX12_mostBy_79 : decode cX12_mostBy 79 = .ok (.iastore, 1) := by decide +kernel
theorem dX12_mostBy_80 : decode cX12_mostBy 80 = .ok (.aload_n 0, 1) := by decide +kernel
theorem dX12_mostBy_81 : decode cX12_mostBy 81 = .ok (.getfield 306, 3) := by decide +kernel
theorem dX12_mostBy_84 : decode cX12_mostBy 84 = .ok (.iload 5, 2) := by decide +kernel
theorem dX12_mostBy_86 : decode cX12_mostBy 86 = .ok (.iaload, 1) := by decide +kernel
theorem dX12_mostBy_87 : decode cX12_mostBy 87 = .ok (.iload_n 3, 1) := by decide +kernel
theorem dX12_mostBy_88 : decode cX12_mostBy 88 = .ok (.if_icmp .le 13, 3) := by decide +kernel
theorem dX12_mostBy_91 : decode cX12_mostBy 91 = .ok (.aload_n 0, 1) := by decide +kernel
theorem dX12_mostBy_92 : decode cX12_mostBy 92 = .ok (.getfield 306, 3) := by decide +kernel
theorem dX12_mostBy_95 : decode cX12_mostBy 95 = .ok (.iload 5, 2) := by decide +kernel
theorem dX12_mostBy_97 : decode cX12_mostBy 97 = .ok (.iaload, 1) := by decide +kernel
theorem dX12_mostBy_98 : decode cX12_mostBy 98 = .ok (.goto 4, 3) := by decide +kernel
theorem dX12_mostBy_101 : decode cX12_mostBy 101 = .ok (.iload_n 3, 1) := by decide +kernel
theorem dX12_mostBy_102 : decode cX12_mostBy 102 = .ok (.istore_n 3, 1) := by decide +kernel
theorem dX12_mostBy_103 : decode cX12_mostBy 103 = .ok (.iinc 4 1, 3) := by decide +kernel
theorem dX12_mostBy_106 : decode cX12_mostBy 106 = .ok (.goto (-74), 3) := by decide +kernel
theorem dX12_mostBy_109 : decode cX12_mostBy 109 = .ok (.iload_n 3, 1) := by decide +kernel
theorem dX12_mostBy_110 : decode cX12_mostBy 110 = .ok (.ireturn, 1) := by decide +kernel
theorem dX12_tells_0 : decode cX12_tells 0 = .ok (.aload_n 0, 1) := by decide +kernel
theorem dX12_tells_1 : decode cX12_tells 1 = .ok (.getfield 146, 3) := by decide +kernel
theorem dX12_tells_4 : decode cX12_tells 4 = .ok (.ifCond .eq 12, 3) := by decide +kernel
theorem dX12_tells_7 : decode cX12_tells 7 = .ok (.iload_n 1, 1) := by decide +kernel
theorem dX12_tells_8 : decode cX12_tells 8 = .ok (.iconst 0, 1) := by decide +kernel
theorem dX12_tells_9 : decode cX12_tells 9 = .ok (.iconst 1, 1) := by decide +kernel
theorem dX12_tells_10 : decode cX12_tells 10 = .ok (.invokestatic 362, 3) := by decide +kernel
theorem dX12_tells_13 : decode cX12_tells 13 = .ok (.ifCond .ne 5, 3) := by decide +kernel
theorem dX12_tells_16 : decode cX12_tells 16 = .ok (.iconst (-1), 1) := by decide +kernel
theorem dX12_tells_17 : decode cX12_tells 17 = .ok (.ireturn, 1) := by decide +kernel
theorem dX12_tells_18 : decode cX12_tells 18 = .ok (.aload_n 0, 1) := by decide +kernel
theorem dX12_tells_19 : decode cX12_tells 19 = .ok (.invokevirtual 621, 3) := by decide +kernel
theorem dX12_tells_22 : decode cX12_tells 22 = .ok (.istore_n 2, 1) := by decide +kernel
theorem dX12_tells_23 : decode cX12_tells 23 = .ok (.iconst (-1), 1) := by decide +kernel
theorem dX12_tells_24 : decode cX12_tells 24 = .ok (.istore_n 3, 1) := by decide +kernel
theorem dX12_tells_25 : decode cX12_tells 25 = .ok (.ldc_w 624, 3) := by decide +kernel
theorem dX12_tells_28 : decode cX12_tells 28 = .ok (.istore 4, 2) := by decide +kernel
theorem dX12_tells_30 : decode cX12_tells 30 = .ok (.iconst 0, 1) := by decide +kernel
theorem dX12_tells_31 : decode cX12_tells 31 = .ok (.istore 5, 2) := by decide +kernel
theorem dX12_tells_33 : decode cX12_tells 33 = .ok (.iload 5, 2) := by decide +kernel
theorem dX12_tells_35 : decode cX12_tells 35 = .ok (.aload_n 0, 1) := by decide +kernel
theorem dX12_tells_36 : decode cX12_tells 36 = .ok (.getfield 170, 3) := by decide +kernel
theorem dX12_tells_39 : decode cX12_tells 39 = .ok (.if_icmp .ge 46, 3) := by decide +kernel
theorem dX12_tells_42 : decode cX12_tells 42 = .ok (.iload 5, 2) := by decide +kernel
theorem dX12_tells_44 : decode cX12_tells 44 = .ok (.sipush 1000, 3) := by decide +kernel
theorem dX12_tells_47 : decode cX12_tells 47 = .ok (.if_icmp .ge 38, 3) := by decide +kernel
theorem dX12_tells_50 : decode cX12_tells 50 = .ok (.iload_n 2, 1) := by decide +kernel
theorem dX12_tells_51 : decode cX12_tells 51 = .ok (.ifCond .le 34, 3) := by decide +kernel
theorem dX12_tells_54 : decode cX12_tells 54 = .ok (.aload_n 0, 1) := by decide +kernel
theorem dX12_tells_55 : decode cX12_tells 55 = .ok (.iload 5, 2) := by decide +kernel
theorem dX12_tells_57 : decode cX12_tells 57 = .ok (.invokevirtual 625, 3) := by decide +kernel
theorem dX12_tells_60 : decode cX12_tells 60 = .ok (.istore 6, 2) := by decide +kernel
theorem dX12_tells_62 : decode cX12_tells 62 = .ok (.iload 6, 2) := by decide +kernel
theorem dX12_tells_64 : decode cX12_tells 64 = .ok (.iload 4, 2) := by decide +kernel
theorem dX12_tells_66 : decode cX12_tells 66 = .ok (.if_icmp .lt 6, 3) := by decide +kernel
theorem dX12_tells_69 : decode cX12_tells 69 = .ok (.goto 10, 3) := by decide +kernel
theorem dX12_tells_72 : decode cX12_tells 72 = .ok (.iload 6, 2) := by decide +kernel
theorem dX12_tells_74 : decode cX12_tells 74 = .ok (.istore 4, 2) := by decide +kernel
theorem dX12_tells_76 : decode cX12_tells 76 = .ok (.iload 5, 2) := by decide +kernel
theorem dX12_tells_78 : decode cX12_tells 78 = .ok (.istore_n 3, 1) := by decide +kernel
theorem dX12_tells_79 : decode cX12_tells 79 = .ok (.iinc 5 1, 3) := by decide +kernel
theorem dX12_tells_82 : decode cX12_tells 82 = .ok (.goto (-49), 3) := by decide +kernel
theorem dX12_tells_85 : decode cX12_tells 85 = .ok (.iload_n 3, 1) := by decide +kernel
theorem dX12_tells_86 : decode cX12_tells 86 = .ok (.iconst (-1), 1) := by decide +kernel
theorem dX12_tells_87 : decode cX12_tells 87 = .ok (.if_icmp .eq 7, 3) := by decide +kernel
theorem dX12_tells_90 : decode cX12_tells 90 = .ok (.iload_n 1, 1) := by decide +kernel
theorem dX12_tells_91 : decode cX12_tells 91 = .ok (.ifCond .ne 7, 3) := by decide +kernel
theorem dX12_tells_94 : decode cX12_tells 94 = .ok (.iload_n 3, 1) := by decide +kernel
theorem dX12_tells_95 : decode cX12_tells 95 = .ok (.goto 5, 3) := by decide +kernel
theorem dX12_tells_98 : decode cX12_tells 98 = .ok (.iload 4, 2) := by decide +kernel
theorem dX12_tells_100 : decode cX12_tells 100 = .ok (.ireturn, 1) := by decide +kernel
theorem dX12_runs_0 : decode cX12_runs 0 = .ok (.aload_n 0, 1) := by decide +kernel
theorem dX12_runs_1 : decode cX12_runs 1 = .ok (.iconst 0, 1) := by decide +kernel
theorem dX12_runs_2 : decode cX12_runs 2 = .ok (.aload_n 0, 1) := by decide +kernel
theorem dX12_runs_3 : decode cX12_runs 3 = .ok (.getfield 182, 3) := by decide +kernel
theorem dX12_runs_6 : decode cX12_runs 6 = .ok (.iconst 0, 1) := by decide +kernel
theorem dX12_runs_7 : decode cX12_runs 7 = .ok (.iaload, 1) := by decide +kernel
theorem dX12_runs_8 : decode cX12_runs 8 = .ok (.invokevirtual 581, 3) := by decide +kernel
theorem dX12_runs_11 : decode cX12_runs 11 = .ok (.aload_n 0, 1) := by decide +kernel
theorem dX12_runs_12 : decode cX12_runs 12 = .ok (.aload_n 0, 1) := by decide +kernel
theorem dX12_runs_13 : decode cX12_runs 13 = .ok (.getfield 179, 3) := by decide +kernel
theorem dX12_runs_16 : decode cX12_runs 16 = .ok (.iconst 0, 1) := by decide +kernel
theorem dX12_runs_17 : decode cX12_runs 17 = .ok (.iaload, 1) := by decide +kernel
theorem dX12_runs_18 : decode cX12_runs 18 = .ok (.invokevirtual 492, 3) := by decide +kernel
theorem dX12_runs_21 : decode cX12_runs 21 = .ok (.istore_n 2, 1) := by decide +kernel
theorem dX12_runs_22 : decode cX12_runs 22 = .ok (.aload_n 0, 1) := by decide +kernel
theorem dX12_runs_23 : decode cX12_runs 23 = .ok (.iload_n 1, 1) := by decide +kernel
theorem dX12_runs_24 : decode cX12_runs 24 = .ok (.invokevirtual 484, 3) := by decide +kernel
theorem dX12_runs_27 : decode cX12_runs 27 = .ok (.iload_n 2, 1) := by decide +kernel
theorem dX12_runs_28 : decode cX12_runs 28 = .ok (.iand, 1) := by decide +kernel
theorem dX12_runs_29 : decode cX12_runs 29 = .ok (.invokestatic 495, 3) := by decide +kernel
theorem dX12_runs_32 : decode cX12_runs 32 = .ok (.istore_n 3, 1) := by decide +kernel
theorem dX12_runs_33 : decode cX12_runs 33 = .ok (.aload_n 0, 1) := by decide +kernel
theorem dX12_runs_34 : decode cX12_runs 34 = .ok (.iload_n 1, 1) := by decide +kernel
theorem dX12_runs_35 : decode cX12_runs 35 = .ok (.iload_n 2, 1) := by decide +kernel
theorem dX12_runs_36 : decode cX12_runs 36 = .ok (.invokevirtual 571, 3) := by decide +kernel
theorem dX12_runs_39 : decode cX12_runs 39 = .ok (.istore 4, 2) := by decide +kernel
theorem dX12_runs_41 : decode cX12_runs 41 = .ok (.aload_n 0, 1) := by decide +kernel
theorem dX12_runs_42 : decode cX12_runs 42 = .ok (.getfield 185, 3) := by decide +kernel
theorem dX12_runs_45 : decode cX12_runs 45 = .ok (.iconst 0, 1) := by decide +kernel
theorem dX12_runs_46 : decode cX12_runs 46 = .ok (.iaload, 1) := by decide +kernel
theorem dX12_runs_47 : decode cX12_runs 47 = .ok (.bipush 40, 2) := by decide +kernel
theorem dX12_runs_49 : decode cX12_runs 49 = .ok (.if_icmp .ne 45, 3) := by decide +kernel
theorem dX12_runs_52 : decode cX12_runs 52 = .ok (.iconst 0, 1) := by decide +kernel
theorem dX12_runs_53 : decode cX12_runs 53 = .ok (.istore 5, 2) := by decide +kernel
theorem dX12_runs_55 : decode cX12_runs 55 = .ok (.iload 5, 2) := by decide +kernel
theorem dX12_runs_57 : decode cX12_runs 57 = .ok (.bipush 117, 2) := by decide +kernel
theorem dX12_runs_59 : decode cX12_runs 59 = .ok (.if_icmp .ge 25, 3) := by decide +kernel
theorem dX12_runs_62 : decode cX12_runs 62 = .ok (.aload_n 0, 1) := by decide +kernel
theorem dX12_runs_63 : decode cX12_runs 63 = .ok (.getfield 188, 3) := by decide +kernel
theorem dX12_runs_66 : decode cX12_runs 66 = .ok (.iload 5, 2) := by decide +kernel
theorem dX12_runs_68 : decode cX12_runs 68 = .ok (.aload_n 0, 1) := by decide +kernel
theorem dX12_runs_69 : decode cX12_runs 69 = .ok (.getfield 188, 3) := by decide +kernel
theorem dX12_runs_72 : decode cX12_runs 72 = .ok (.iload 5, 2) := by decide +kernel
theorem dX12_runs_74 : decode cX12_runs 74 = .ok (.iconst 3, 1) := by decide +kernel
theorem dX12_runs_75 : decode cX12_runs 75 = .ok (.iadd, 1) := by decide +kernel
theorem dX12_runs_76 : decode cX12_runs 76 = .ok (.iaload, 1) := by decide +kernel
theorem dX12_runs_77 : decode cX12_runs 77 = .ok (.iastore, 1) := by decide +kernel
theorem dX12_runs_78 : decode cX12_runs 78 = .ok (.iinc 5 1, 3) := by decide +kernel
theorem dX12_runs_81 : decode cX12_runs 81 = .ok (.goto (-26), 3) := by decide +kernel
theorem dX12_runs_84 : decode cX12_runs 84 = .ok (.aload_n 0, 1) := by decide +kernel
theorem dX12_runs_85 : decode cX12_runs 85 = .ok (.getfield 185, 3) := by decide +kernel
theorem dX12_runs_88 : decode cX12_runs 88 = .ok (.iconst 0, 1) := by decide +kernel
theorem dX12_runs_89 : decode cX12_runs 89 = .ok (.dup2, 1) := by decide +kernel
theorem dX12_runs_90 : decode cX12_runs 90 = .ok (.iaload, 1) := by decide +kernel
theorem dX12_runs_91 : decode cX12_runs 91 = .ok (.iconst 1, 1) := by decide +kernel
theorem dX12_runs_92 : decode cX12_runs 92 = .ok (.isub, 1) := by decide +kernel
theorem dX12_runs_93 : decode cX12_runs 93 = .ok (.iastore, 1) := by decide +kernel
theorem dX12_runs_94 : decode cX12_runs 94 = .ok (.iconst 3, 1) := by decide +kernel
theorem dX12_runs_95 : decode cX12_runs 95 = .ok (.aload_n 0, 1) := by decide +kernel
theorem dX12_runs_96 : decode cX12_runs 96 = .ok (.getfield 185, 3) := by decide +kernel
theorem dX12_runs_99 : decode cX12_runs 99 = .ok (.iconst 0, 1) := by decide +kernel
theorem dX12_runs_100 : decode cX12_runs 100 = .ok (.iaload, 1) := by decide +kernel
theorem dX12_runs_101 : decode cX12_runs 101 = .ok (.imul, 1) := by decide +kernel
theorem dX12_runs_102 : decode cX12_runs 102 = .ok (.istore 5, 2) := by decide +kernel
theorem dX12_runs_104 : decode cX12_runs 104 = .ok (.aload_n 0, 1) := by decide +kernel
theorem dX12_runs_105 : decode cX12_runs 105 = .ok (.getfield 188, 3) := by decide +kernel
theorem dX12_runs_108 : decode cX12_runs 108 = .ok (.iload 5, 2) := by decide +kernel
theorem dX12_runs_110 : decode cX12_runs 110 = .ok (.iload_n 1, 1) := by decide +kernel
theorem dX12_runs_111 : decode cX12_runs 111 = .ok (.iastore, 1) := by decide +kernel
theorem dX12_runs_112 : decode cX12_runs 112 = .ok (.aload_n 0, 1) := by decide +kernel
theorem dX12_runs_113 : decode cX12_runs 113 = .ok (.getfield 188, 3) := by decide +kernel
theorem dX12_runs_116 : decode cX12_runs 116 = .ok (.iload 5, 2) := by decide +kernel
theorem dX12_runs_118 : decode cX12_runs 118 = .ok (.iconst 1, 1) := by decide +kernel
theorem dX12_runs_119 : decode cX12_runs 119 = .ok (.iadd, 1) := by decide +kernel
theorem dX12_runs_120 : decode cX12_runs 120 = .ok (.iload_n 3, 1) := by decide +kernel
theorem dX12_runs_121 : decode cX12_runs 121 = .ok (.iconst (-1), 1) := by decide +kernel
theorem dX12_runs_122 : decode cX12_runs 122 = .ok (.if_icmp .ne 7, 3) := by decide +kernel
theorem dX12_runs_125 : decode cX12_runs 125 = .ok (.iconst (-1), 1) := by decide +kernel
theorem dX12_runs_126 : decode cX12_runs 126 = .ok (.goto 9, 3) := by decide +kernel
theorem dX12_runs_129 : decode cX12_runs 129 = .ok (.aload_n 0, 1) := by decide +kernel
theorem dX12_runs_130 : decode cX12_runs 130 = .ok (.getfield 176, 3) := by decide +kernel
theorem dX12_runs_133 : decode cX12_runs 133 = .ok (.iload_n 3, 1) := by decide +kernel
theorem dX12_runs_134 : decode cX12_runs 134 = .ok (.iaload, 1) := by decide +kernel
theorem dX12_runs_135 : decode cX12_runs 135 = .ok (.iastore, 1) := by decide +kernel
theorem dX12_runs_136 : decode cX12_runs 136 = .ok (.aload_n 0, 1) := by decide +kernel
theorem dX12_runs_137 : decode cX12_runs 137 = .ok (.getfield 188, 3) := by decide +kernel
theorem dX12_runs_140 : decode cX12_runs 140 = .ok (.iload 5, 2) := by decide +kernel
theorem dX12_runs_142 : decode cX12_runs 142 = .ok (.iconst 2, 1) := by decide +kernel
theorem dX12_runs_143 : decode cX12_runs 143 = .ok (.iadd, 1) := by decide +kernel
theorem dX12_runs_144 : decode cX12_runs 144 = .ok (.iload 4, 2) := by decide +kernel
theorem dX12_runs_146 : decode cX12_runs 146 = .ok (.iastore, 1) := by decide +kernel
theorem dX12_runs_147 : decode cX12_runs 147 = .ok (.aload_n 0, 1) := by decide +kernel
theorem dX12_runs_148 : decode cX12_runs 148 = .ok (.getfield 185, 3) := by decide +kernel
theorem dX12_runs_151 : decode cX12_runs 151 = .ok (.iconst 0, 1) := by decide +kernel
theorem dX12_runs_152 : decode cX12_runs 152 = .ok (.dup2, 1) := by decide +kernel
theorem dX12_runs_153 : decode cX12_runs 153 = .ok (.iaload, 1) := by decide +kernel
theorem dX12_runs_154 : decode cX12_runs 154 = .ok (.iconst 1, 1) := by decide +kernel
theorem dX12_runs_155 : decode cX12_runs 155 = .ok (.iadd, 1) := by decide +kernel
theorem dX12_runs_156 : decode cX12_runs 156 = .ok (.iastore, 1) := by decide +kernel
theorem dX12_runs_157 : decode cX12_runs 157 = .ok (.iload_n 3, 1) := by decide +kernel
theorem dX12_runs_158 : decode cX12_runs 158 = .ok (.ireturn, 1) := by decide +kernel
theorem dX12_run_0 : decode cX12_run 0 = .ok (.aload_n 0, 1) := by decide +kernel
theorem dX12_run_1 : decode cX12_run 1 = .ok (.iload_n 1, 1) := by decide +kernel
theorem dX12_run_2 : decode cX12_run 2 = .ok (.invokevirtual 516, 3) := by decide +kernel
theorem dX12_run_5 : decode cX12_run 5 = .ok (.ifCond .ne 9, 3) := by decide +kernel
theorem dX12_run_8 : decode cX12_run 8 = .ok (.aload_n 0, 1) := by decide +kernel
theorem dX12_run_9 : decode cX12_run 9 = .ok (.iconst 2, 1) := by decide +kernel
theorem dX12_run_10 : decode cX12_run 10 = .ok (.invokevirtual 312, 3) := by decide +kernel
theorem dX12_run_13 : decode cX12_run 13 = .ok (.ireturn, 1) := by decide +kernel
theorem dX12_run_14 : decode cX12_run 14 = .ok (.aload_n 0, 1) := by decide +kernel
theorem dX12_run_15 : decode cX12_run 15 = .ok (.invokevirtual 628, 3) := by decide +kernel
theorem dX12_run_18 : decode cX12_run 18 = .ok (.aload_n 0, 1) := by decide +kernel
theorem dX12_run_19 : decode cX12_run 19 = .ok (.iload_n 1, 1) := by decide +kernel
theorem dX12_run_20 : decode cX12_run 20 = .ok (.invokevirtual 631, 3) := by decide +kernel
theorem dX12_run_23 : decode cX12_run 23 = .ok (.ireturn, 1) := by decide +kernel
theorem dX12_draw_0 : decode cX12_draw 0 = .ok (.aload_n 0, 1) := by decide +kernel
theorem dX12_draw_1 : decode cX12_draw 1 = .ok (.ldc2_w 634, 3) := by decide +kernel
theorem dX12_draw_4 : decode cX12_draw 4 = .ok (.aload_n 0, 1) := by decide +kernel
theorem dX12_draw_5 : decode cX12_draw 5 = .ok (.getfield 197, 3) := by decide +kernel
theorem dX12_draw_8 : decode cX12_draw 8 = .ok (.lmul, 1) := by decide +kernel
theorem dX12_draw_9 : decode cX12_draw 9 = .ok (.ldc2_w 636, 3) := by decide +kernel
theorem dX12_draw_12 : decode cX12_draw 12 = .ok (.ladd, 1) := by decide +kernel
theorem dX12_draw_13 : decode cX12_draw 13 = .ok (.ldc2_w 638, 3) := by decide +kernel
theorem dX12_draw_16 : decode cX12_draw 16 = .ok (.lrem, 1) := by decide +kernel
theorem dX12_draw_17 : decode cX12_draw 17 = .ok (.putfield 197, 3) := by decide +kernel
theorem dX12_draw_20 : decode cX12_draw 20 = .ok (.aload_n 0, 1) := by decide +kernel
theorem dX12_draw_21 : decode cX12_draw 21 = .ok (.getfield 197, 3) := by decide +kernel
theorem dX12_draw_24 : decode cX12_draw 24 = .ok (.ldc2_w 640, 3) := by decide +kernel
theorem dX12_draw_27 : decode cX12_draw 27 = .ok (.ldiv, 1) := by decide +kernel
theorem dX12_draw_28 : decode cX12_draw 28 = .ok (.iload_n 1, 1) := by decide +kernel
theorem dX12_draw_29 : decode cX12_draw 29 = .ok (.i2l, 1) := by decide +kernel
theorem dX12_draw_30 : decode cX12_draw 30 = .ok (.lrem, 1) := by decide +kernel
theorem dX12_draw_31 : decode cX12_draw 31 = .ok (.l2i, 1) := by decide +kernel
theorem dX12_draw_32 : decode cX12_draw 32 = .ok (.ireturn, 1) := by decide +kernel
theorem dX12_chance_0 : decode cX12_chance 0 = .ok (.aload_n 0, 1) := by decide +kernel
theorem dX12_chance_1 : decode cX12_chance 1 = .ok (.getfield 146, 3) := by decide +kernel
theorem dX12_chance_4 : decode cX12_chance 4 = .ok (.ifCond .eq 13, 3) := by decide +kernel
theorem dX12_chance_7 : decode cX12_chance 7 = .ok (.iload_n 1, 1) := by decide +kernel
theorem dX12_chance_8 : decode cX12_chance 8 = .ok (.iconst 1, 1) := by decide +kernel
theorem dX12_chance_9 : decode cX12_chance 9 = .ok (.bipush 40, 2) := by decide +kernel
theorem dX12_chance_11 : decode cX12_chance 11 = .ok (.invokestatic 362, 3) := by decide +kernel
theorem dX12_chance_14 : decode cX12_chance 14 = .ok (.ifCond .ne 9, 3) := by decide +kernel
theorem dX12_chance_17 : decode cX12_chance 17 = .ok (.aload_n 0, 1) := by decide +kernel
theorem dX12_chance_18 : decode cX12_chance 18 = .ok (.iconst 2, 1) := by decide +kernel
theorem dX12_chance_19 : decode cX12_chance 19 = .ok (.invokevirtual 312, 3) := by decide +kernel
theorem dX12_chance_22 : decode cX12_chance 22 = .ok (.ireturn, 1) := by decide +kernel
theorem dX12_chance_23 : decode cX12_chance 23 = .ok (.aload_n 0, 1) := by decide +kernel
theorem dX12_chance_24 : decode cX12_chance 24 = .ok (.invokevirtual 628, 3) := by decide +kernel
theorem dX12_chance_27 : decode cX12_chance 27 = .ok (.iconst 0, 1) := by decide +kernel
theorem dX12_chance_28 : decode cX12_chance 28 = .ok (.istore_n 2, 1) := by decide +kernel
theorem dX12_chance_29 : decode cX12_chance 29 = .ok (.iconst 0, 1) := by decide +kernel
theorem dX12_chance_30 : decode cX12_chance 30 = .ok (.istore_n 3, 1) := by decide +kernel
theorem dX12_chance_31 : decode cX12_chance 31 = .ok (.iload_n 3, 1) := by decide +kernel
theorem dX12_chance_32 : decode cX12_chance 32 = .ok (.iload_n 1, 1) := by decide +kernel
theorem dX12_chance_33 : decode cX12_chance 33 = .ok (.if_icmp .ge 33, 3) := by decide +kernel
theorem dX12_chance_36 : decode cX12_chance 36 = .ok (.iload_n 2, 1) := by decide +kernel
theorem dX12_chance_37 : decode cX12_chance 37 = .ok (.aload_n 0, 1) := by decide +kernel
theorem dX12_chance_38 : decode cX12_chance 38 = .ok (.aload_n 0, 1) := by decide +kernel
theorem dX12_chance_39 : decode cX12_chance 39 = .ok (.aload_n 0, 1) := by decide +kernel
theorem dX12_chance_40 : decode cX12_chance 40 = .ok (.getfield 170, 3) := by decide +kernel
theorem dX12_chance_43 : decode cX12_chance 43 = .ok (.invokevirtual 642, 3) := by decide +kernel
theorem dX12_chance_46 : decode cX12_chance 46 = .ok (.invokevirtual 631, 3) := by decide +kernel
theorem dX12_chance_49 : decode cX12_chance 49 = .ok (.iconst (-1), 1) := by decide +kernel
theorem dX12_chance_50 : decode cX12_chance 50 = .ok (.if_icmp .ne 7, 3) := by decide +kernel
theorem dX12_chance_53 : decode cX12_chance 53 = .ok (.iconst 1, 1) := by decide +kernel
theorem dX12_chance_54 : decode cX12_chance 54 = .ok (.goto 4, 3) := by decide +kernel
theorem dX12_chance_57 : decode cX12_chance 57 = .ok (.iconst 0, 1) := by decide +kernel
theorem dX12_chance_58 : decode cX12_chance 58 = .ok (.iadd, 1) := by decide +kernel
theorem dX12_chance_59 : decode cX12_chance 59 = .ok (.istore_n 2, 1) := by decide +kernel
theorem dX12_chance_60 : decode cX12_chance 60 = .ok (.iinc 3 1, 3) := by decide +kernel
theorem dX12_chance_63 : decode cX12_chance 63 = .ok (.goto (-32), 3) := by decide +kernel
theorem dX12_chance_66 : decode cX12_chance 66 = .ok (.iload_n 2, 1) := by decide +kernel
theorem dX12_chance_67 : decode cX12_chance 67 = .ok (.ireturn, 1) := by decide +kernel
theorem dX12_swap_0 : decode cX12_swap 0 = .ok (.aload_n 0, 1) := by decide +kernel
theorem dX12_swap_1 : decode cX12_swap 1 = .ok (.iload_n 1, 1) := by decide +kernel
theorem dX12_swap_2 : decode cX12_swap 2 = .ok (.invokevirtual 498, 3) := by decide +kernel
theorem dX12_swap_5 : decode cX12_swap 5 = .ok (.ifCond .eq 16, 3) := by decide +kernel
theorem dX12_swap_8 : decode cX12_swap 8 = .ok (.aload_n 0, 1) := by decide +kernel
theorem dX12_swap_9 : decode cX12_swap 9 = .ok (.iload_n 2, 1) := by decide +kernel
theorem dX12_swap_10 : decode cX12_swap 10 = .ok (.invokevirtual 498, 3) := by decide +kernel
theorem dX12_swap_13 : decode cX12_swap 13 = .ok (.ifCond .eq 8, 3) := by decide +kernel
theorem dX12_swap_16 : decode cX12_swap 16 = .ok (.iload_n 1, 1) := by decide +kernel
theorem dX12_swap_17 : decode cX12_swap 17 = .ok (.iload_n 2, 1) := by decide +kernel
theorem dX12_swap_18 : decode cX12_swap 18 = .ok (.if_icmp .ne 17, 3) := by decide +kernel
theorem dX12_swap_21 : decode cX12_swap 21 = .ok (.aload_n 0, 1) := by decide +kernel
theorem dX12_swap_22 : decode cX12_swap 22 = .ok (.iconst 3, 1) := by decide +kernel
theorem dX12_swap_23 : decode cX12_swap 23 = .ok (.invokevirtual 312, 3) := by decide +kernel
