theorem dX6_readColumns_139 : decode cX6_readColumns 139 = .ok (.getfield 27, 3) := by decide +kernel
theorem dX6_readColumns_142 : decode cX6_readColumns 142 = .ok (.iload_n 3, 1) := by decide +kernel
theorem dX6_readColumns_143 : decode cX6_readColumns 143 = .ok (.invokevirtual 153, 3) := by decide +kernel
theorem dX6_readColumns_146 : decode cX6_readColumns 146 = .ok (.aload_n 0, 1) := by decide +kernel
theorem dX6_readColumns_147 : decode cX6_readColumns 147 = .ok (.getfield 12, 3) := by decide +kernel
theorem dX6_readColumns_150 : decode cX6_readColumns 150 = .ok (.invokevirtual 92, 3) := by decide +kernel
theorem dX6_readColumns_153 : decode cX6_readColumns 153 = .ok (.iinc 2 1, 3) := by decide +kernel
theorem dX6_readColumns_156 : decode cX6_readColumns 156 = .ok (.goto (-109), 3) := by decide +kernel
theorem dX6_readColumns_159 : decode cX6_readColumns 159 = .ok (.iconst 1, 1) := by decide +kernel
theorem dX6_readColumns_160 : decode cX6_readColumns 160 = .ok (.ireturn, 1) := by decide +kernel
theorem dX6_readArm_0 : decode cX6_readArm 0 = .ok (.aload_n 0, 1) := by decide +kernel
theorem dX6_readArm_1 : decode cX6_readArm 1 = .ok (.getfield 27, 3) := by decide +kernel
theorem dX6_readArm_4 : decode cX6_readArm 4 = .ok (.getfield 79, 3) := by decide +kernel
theorem dX6_readArm_7 : decode cX6_readArm 7 = .ok (.ifCond .ne 8, 3) := by decide +kernel
theorem dX6_readArm_10 : decode cX6_readArm 10 = .ok (.aload_n 0, 1) := by decide +kernel
theorem dX6_readArm_11 : decode cX6_readArm 11 = .ok (.invokevirtual 65, 3) := by decide +kernel
theorem dX6_readArm_14 : decode cX6_readArm 14 = .ok (.ireturn, 1) := by decide +kernel
theorem dX6_readArm_15 : decode cX6_readArm 15 = .ok (.aload_n 0, 1) := by decide +kernel
theorem dX6_readArm_16 : decode cX6_readArm 16 = .ok (.getfield 27, 3) := by decide +kernel
theorem dX6_readArm_19 : decode cX6_readArm 19 = .ok (.getfield 156, 3) := by decide +kernel
theorem dX6_readArm_22 : decode cX6_readArm 22 = .ok (.bipush 12, 2) := by decide +kernel
theorem dX6_readArm_24 : decode cX6_readArm 24 = .ok (.if_icmp .lt 17, 3) := by decide +kernel
theorem dX6_readArm_27 : decode cX6_readArm 27 = .ok (.aload_n 0, 1) := by decide +kernel
theorem dX6_readArm_28 : decode cX6_readArm 28 = .ok (.bipush 6, 2) := by decide +kernel
theorem dX6_readArm_30 : decode cX6_readArm 30 = .ok (.aload_n 0, 1) := by decide +kernel
theorem dX6_readArm_31 : decode cX6_readArm 31 = .ok (.getfield 12, 3) := by decide +kernel
theorem dX6_readArm_34 : decode cX6_readArm 34 = .ok (.getfield 72, 3) := by decide +kernel
theorem dX6_readArm_37 : decode cX6_readArm 37 = .ok (.invokevirtual 75, 3) := by decide +kernel
theorem dX6_readArm_40 : decode cX6_readArm 40 = .ok (.ireturn, 1) := by decide +kernel
theorem dX6_readArm_41 : decode cX6_readArm 41 = .ok (.aload_n 0, 1) := by decide +kernel
theorem dX6_readArm_42 : decode cX6_readArm 42 = .ok (.getfield 12, 3) := by decide +kernel
theorem dX6_readArm_45 : decode cX6_readArm 45 = .ok (.invokevirtual 92, 3) := by decide +kernel
theorem dX6_readArm_48 : decode cX6_readArm 48 = .ok (.iconst 0, 1) := by decide +kernel
theorem dX6_readArm_49 : decode cX6_readArm 49 = .ok (.istore_n 1, 1) := by decide +kernel
theorem dX6_readArm_50 : decode cX6_readArm 50 = .ok (.iload_n 1, 1) := by decide +kernel
theorem dX6_readArm_51 : decode cX6_readArm 51 = .ok (.aload_n 0, 1) := by decide +kernel
theorem dX6_readArm_52 : decode cX6_readArm 52 = .ok (.getfield 27, 3) := by decide +kernel
theorem dX6_readArm_55 : decode cX6_readArm 55 = .ok (.getfield 79, 3) := by decide +kernel
theorem dX6_readArm_58 : decode cX6_readArm 58 = .ok (.if_icmp .ge 58, 3) := by decide +kernel
theorem dX6_readArm_61 : decode cX6_readArm 61 = .ok (.iload_n 1, 1) := by decide +kernel
theorem dX6_readArm_62 : decode cX6_readArm 62 = .ok (.ifCond .le 14, 3) := by decide +kernel
theorem dX6_readArm_65 : decode cX6_readArm 65 = .ok (.aload_n 0, 1) := by decide +kernel
theorem dX6_readArm_66 : decode cX6_readArm 66 = .ok (.bipush 44, 2) := by decide +kernel
theorem dX6_readArm_68 : decode cX6_readArm 68 = .ok (.invokevirtual 68, 3) := by decide +kernel
theorem dX6_readArm_71 : decode cX6_readArm 71 = .ok (.ifCond .ne 5, 3) := by decide +kernel
theorem dX6_readArm_74 : decode cX6_readArm 74 = .ok (.iconst 0, 1) := by decide +kernel
theorem dX6_readArm_75 : decode cX6_readArm 75 = .ok (.ireturn, 1) := by decide +kernel
theorem dX6_readArm_76 : decode cX6_readArm 76 = .ok (.aload_n 0, 1) := by decide +kernel
theorem dX6_readArm_77 : decode cX6_readArm 77 = .ok (.aload_n 0, 1) := by decide +kernel
theorem dX6_readArm_78 : decode cX6_readArm 78 = .ok (.getfield 27, 3) := by decide +kernel
theorem dX6_readArm_81 : decode cX6_readArm 81 = .ok (.getfield 159, 3) := by decide +kernel
theorem dX6_readArm_84 : decode cX6_readArm 84 = .ok (.iload_n 1, 1) := by decide +kernel
theorem dX6_readArm_85 : decode cX6_readArm 85 = .ok (.iaload, 1) := by decide +kernel
theorem dX6_readArm_86 : decode cX6_readArm 86 = .ok (.iconst 0, 1) := by decide +kernel
theorem dX6_readArm_87 : decode cX6_readArm 87 = .ok (.iconst 0, 1) := by decide +kernel
theorem dX6_readArm_88 : decode cX6_readArm 88 = .ok (.invokestatic 163, 3) := by decide +kernel
theorem dX6_readArm_91 : decode cX6_readArm 91 = .ok (.ifCond .ne 5, 3) := by decide +kernel
theorem dX6_readArm_94 : decode cX6_readArm 94 = .ok (.iconst 0, 1) := by decide +kernel
theorem dX6_readArm_95 : decode cX6_readArm 95 = .ok (.ireturn, 1) := by decide +kernel
theorem dX6_readArm_96 : decode cX6_readArm 96 = .ok (.aload_n 0, 1) := by decide +kernel
theorem dX6_readArm_97 : decode cX6_readArm 97 = .ok (.getfield 27, 3) := by decide +kernel
theorem dX6_readArm_100 : decode cX6_readArm 100 = .ok (.iload_n 1, 1) := by decide +kernel
theorem dX6_readArm_101 : decode cX6_readArm 101 = .ok (.aload_n 0, 1) := by decide +kernel
theorem dX6_readArm_102 : decode cX6_readArm 102 = .ok (.getfield 20, 3) := by decide +kernel
theorem dX6_readArm_105 : decode cX6_readArm 105 = .ok (.iconst 0, 1) := by decide +kernel
theorem dX6_readArm_106 : decode cX6_readArm 106 = .ok (.aaload, 1) := by decide +kernel
theorem dX6_readArm_107 : decode cX6_readArm 107 = .ok (.invokevirtual 167, 3) := by decide +kernel
theorem dX6_readArm_110 : decode cX6_readArm 110 = .ok (.iinc 1 1, 3) := by decide +kernel
theorem dX6_readArm_113 : decode cX6_readArm 113 = .ok (.goto (-63), 3) := by decide +kernel
theorem dX6_readArm_116 : decode cX6_readArm 116 = .ok (.iconst (-1), 1) := by decide +kernel
theorem dX6_readArm_117 : decode cX6_readArm 117 = .ok (.istore_n 1, 1) := by decide +kernel
theorem dX6_readArm_118 : decode cX6_readArm 118 = .ok (.aload_n 0, 1) := by decide +kernel
theorem dX6_readArm_119 : decode cX6_readArm 119 = .ok (.getfield 12, 3) := by decide +kernel
theorem dX6_readArm_122 : decode cX6_readArm 122 = .ok (.getfield 43, 3) := by decide +kernel
theorem dX6_readArm_125 : decode cX6_readArm 125 = .ok (.iconst 4, 1) := by decide +kernel
theorem dX6_readArm_126 : decode cX6_readArm 126 = .ok (.if_icmp .ne 25, 3) := by decide +kernel
theorem dX6_readArm_129 : decode cX6_readArm 129 = .ok (.aload_n 0, 1) := by decide +kernel
theorem dX6_readArm_130 : decode cX6_readArm 130 = .ok (.getfield 12, 3) := by decide +kernel
theorem dX6_readArm_133 : decode cX6_readArm 133 = .ok (.invokevirtual 92, 3) := by decide +kernel
theorem dX6_readArm_136 : decode cX6_readArm 136 = .ok (.aload_n 0, 1) := by decide +kernel
theorem dX6_readArm_137 : decode cX6_readArm 137 = .ok (.iconst 0, 1) := by decide +kernel
theorem dX6_readArm_138 : decode cX6_readArm 138 = .ok (.bipush 7, 2) := by decide +kernel
theorem dX6_readArm_140 : decode cX6_readArm 140 = .ok (.invokevirtual 98, 3) := by decide +kernel
theorem dX6_readArm_143 : decode cX6_readArm 143 = .ok (.istore_n 1, 1) := by decide +kernel
theorem dX6_readArm_144 : decode cX6_readArm 144 = .ok (.iload_n 1, 1) := by decide +kernel
theorem dX6_readArm_145 : decode cX6_readArm 145 = .ok (.iconst (-1), 1) := by decide +kernel
theorem dX6_readArm_146 : decode cX6_readArm 146 = .ok (.if_icmp .ne 5, 3) := by decide +kernel
theorem dX6_readArm_149 : decode cX6_readArm 149 = .ok (.iconst 0, 1) := by decide +kernel
theorem dX6_readArm_150 : decode cX6_readArm 150 = .ok (.ireturn, 1) := by decide +kernel
theorem dX6_readArm_151 : decode cX6_readArm 151 = .ok (.aload_n 0, 1) := by decide +kernel
theorem dX6_readArm_152 : decode cX6_readArm 152 = .ok (.getfield 27, 3) := by decide +kernel
theorem dX6_readArm_155 : decode cX6_readArm 155 = .ok (.iload_n 1, 1) := by decide +kernel
theorem dX6_readArm_156 : decode cX6_readArm 156 = .ok (.invokevirtual 171, 3) := by decide +kernel
theorem dX6_readArm_159 : decode cX6_readArm 159 = .ok (.iconst 1, 1) := by decide +kernel
theorem dX6_readArm_160 : decode cX6_readArm 160 = .ok (.ireturn, 1) := by decide +kernel
theorem dX6_readPattern_0 : decode cX6_readPattern 0 = .ok (.iload_n 3, 1) := by decide +kernel
theorem dX6_readPattern_1 : decode cX6_readPattern 1 = .ok (.iconst 4, 1) := by decide +kernel
theorem dX6_readPattern_2 : decode cX6_readPattern 2 = .ok (.if_icmp .gt 16, 3) := by decide +kernel
theorem dX6_readPattern_5 : decode cX6_readPattern 5 = .ok (.iload_n 2, 1) := by decide +kernel
theorem dX6_readPattern_6 : decode cX6_readPattern 6 = .ok (.ifCond .lt 12, 3) := by decide +kernel
theorem dX6_readPattern_9 : decode cX6_readPattern 9 = .ok (.iload_n 2, 1) := by decide +kernel
theorem dX6_readPattern_10 : decode cX6_readPattern 10 = .ok (.aload_n 0, 1) := by decide +kernel
theorem dX6_readPattern_11 : decode cX6_readPattern 11 = .ok (.getfield 20, 3) := by decide +kernel
theorem dX6_readPattern_14 : decode cX6_readPattern 14 = .ok (.arraylength, 1) := by decide +kernel
theorem dX6_readPattern_15 : decode cX6_readPattern 15 = .ok (.if_icmp .lt 8, 3) := by decide +kernel
theorem dX6_readPattern_18 : decode cX6_readPattern 18 = .ok (.aload_n 0, 1) := by decide +kernel
theorem dX6_readPattern_19 : decode cX6_readPattern 19 = .ok (.invokevirtual 65, 3) := by decide +kernel
theorem dX6_readPattern_22 : decode cX6_readPattern 22 = .ok (.ireturn, 1) := by decide +kernel
theorem dX6_readPattern_23 : decode cX6_readPattern 23 = .ok (.aload_n 0, 1) := by decide +kernel
theorem dX6_readPattern_24 : decode cX6_readPattern 24 = .ok (.getfield 20, 3) := by decide +kernel
theorem dX6_readPattern_27 : decode cX6_readPattern 27 = .ok (.iload_n 2, 1) := by decide +kernel
theorem dX6_readPattern_28 : decode cX6_readPattern 28 = .ok (.aaload, 1) := by decide +kernel
theorem dX6_readPattern_29 : decode cX6_readPattern 29 = .ok (.iconst 0, 1) := by decide +kernel
theorem dX6_readPattern_30 : decode cX6_readPattern 30 = .ok (.aload_n 0, 1) := by decide +kernel
theorem dX6_readPattern_31 : decode cX6_readPattern 31 = .ok (.getfield 27, 3) := by decide +kernel
theorem dX6_readPattern_34 : decode cX6_readPattern 34 = .ok (.getfield 108, 3) := by decide +kernel
theorem dX6_readPattern_37 : decode cX6_readPattern 37 = .ok (.iload_n 1, 1) := by decide +kernel
theorem dX6_readPattern_38 : decode cX6_readPattern 38 = .ok (.invokevirtual 146, 3) := by decide +kernel
theorem dX6_readPattern_41 : decode cX6_readPattern 41 = .ok (.iconst 1, 1) := by decide +kernel
theorem dX6_readPattern_42 : decode cX6_readPattern 42 = .ok (.isub, 1) := by decide +kernel
theorem dX6_readPattern_43 : decode cX6_readPattern 43 = .ok (.iconst 0, 1) := by decide +kernel
theorem dX6_readPattern_44 : decode cX6_readPattern 44 = .ok (.invokestatic 174, 3) := by decide +kernel
theorem dX6_readPattern_47 : decode cX6_readPattern 47 = .ok (.iconst 0, 1) := by decide +kernel
theorem dX6_readPattern_48 : decode cX6_readPattern 48 = .ok (.istore 4, 2) := by decide +kernel
theorem dX6_readPattern_50 : decode cX6_readPattern 50 = .ok (.iload 4, 2) := by decide +kernel
theorem dX6_readPattern_52 : decode cX6_readPattern 52 = .ok (.sipush 1600, 3) := by decide +kernel
theorem dX6_readPattern_55 : decode cX6_readPattern 55 = .ok (.if_icmp .gt 59, 3) := by decide +kernel
theorem dX6_readPattern_58 : decode cX6_readPattern 58 = .ok (.iload_n 1, 1) := by decide +kernel
theorem dX6_readPattern_59 : decode cX6_readPattern 59 = .ok (.iconst (-1), 1) := by decide +kernel
theorem dX6_readPattern_60 : decode cX6_readPattern 60 = .ok (.if_icmp .ne 11, 3) := by decide +kernel
theorem dX6_readPattern_63 : decode cX6_readPattern 63 = .ok (.aload_n 0, 1) := by decide +kernel
theorem dX6_readPattern_64 : decode cX6_readPattern 64 = .ok (.iload_n 2, 1) := by decide +kernel
theorem dX6_readPattern_65 : decode cX6_readPattern 65 = .ok (.invokevirtual 178, 3) := by decide +kernel
theorem dX6_readPattern_68 : decode cX6_readPattern 68 = .ok (.goto 10, 3) := by decide +kernel
theorem dX6_readPattern_71 : decode cX6_readPattern 71 = .ok (.aload_n 0, 1) := by decide +kernel
theorem dX6_readPattern_72 : decode cX6_readPattern 72 = .ok (.iload_n 1, 1) := by decide +kernel
theorem dX6_readPattern_73 : decode cX6_readPattern 73 = .ok (.iload_n 2, 1) := by decide +kernel
theorem dX6_readPattern_74 : decode cX6_readPattern 74 = .ok (.iload_n 3, 1) := by decide +kernel
theorem dX6_readPattern_75 : decode cX6_readPattern 75 = .ok (.invokestatic 181, 3) := by decide +kernel
theorem dX6_readPattern_78 : decode cX6_readPattern 78 = .ok (.istore 5, 2) := by decide +kernel
theorem dX6_readPattern_80 : decode cX6_readPattern 80 = .ok (.iload 5, 2) := by decide +kernel
theorem dX6_readPattern_82 : decode cX6_readPattern 82 = .ok (.ifCond .ne 5, 3) := by decide +kernel
theorem dX6_readPattern_85 : decode cX6_readPattern 85 = .ok (.iconst 0, 1) := by decide +kernel
theorem dX6_readPattern_86 : decode cX6_readPattern 86 = .ok (.ireturn, 1) := by decide +kernel
theorem dX6_readPattern_87 : decode cX6_readPattern 87 = .ok (.aload_n 0, 1) := by decide +kernel
theorem dX6_readPattern_88 : decode cX6_readPattern 88 = .ok (.getfield 12, 3) := by decide +kernel
theorem dX6_readPattern_91 : decode cX6_readPattern 91 = .ok (.getfield 43, 3) := by decide +kernel
theorem dX6_readPattern_94 : decode cX6_readPattern 94 = .ok (.bipush 9, 2) := by decide +kernel
theorem dX6_readPattern_96 : decode cX6_readPattern 96 = .ok (.if_icmp .eq 5, 3) := by decide +kernel
theorem dX6_readPattern_99 : decode cX6_readPattern 99 = .ok (.iconst 1, 1) := by decide +kernel
theorem dX6_readPattern_100 : decode cX6_readPattern 100 = .ok (.ireturn, 1) := by decide +kernel
theorem dX6_readPattern_101 : decode cX6_readPattern 101 = .ok (.aload_n 0, 1) := by decide +kernel
theorem dX6_readPattern_102 : decode cX6_readPattern 102 = .ok (.getfield 12, 3) := by decide +kernel
theorem dX6_readPattern_105 : decode cX6_readPattern 105 = .ok (.invokevirtual 92, 3) := by decide +kernel
theorem dX6_readPattern_108 : decode cX6_readPattern 108 = .ok (.iinc 4 1, 3) := by decide +kernel
theorem dX6_readPattern_111 : decode cX6_readPattern 111 = .ok (.goto (-61), 3) := by decide +kernel
theorem dX6_readPattern_114 : decode cX6_readPattern 114 = .ok (.aload_n 0, 1) := by decide +kernel
theorem dX6_readPattern_115 : decode cX6_readPattern 115 = .ok (.invokevirtual 65, 3) := by decide +kernel
theorem dX6_readPattern_118 : decode cX6_readPattern 118 = .ok (.ireturn, 1) := by decide +kernel
theorem dX6_readRange_0 : decode cX6_readRange 0 = .ok (.aload_n 0, 1) := by decide +kernel
theorem dX6_readRange_1 : decode cX6_readRange 1 = .ok (.getfield 12, 3) := by decide +kernel
theorem dX6_readRange_4 : decode cX6_readRange 4 = .ok (.getfield 43, 3) := by decide +kernel
theorem dX6_readRange_7 : decode cX6_readRange 7 = .ok (.bipush 8, 2) := by decide +kernel
theorem dX6_readRange_9 : decode cX6_readRange 9 = .ok (.if_icmp .ne 25, 3) := by decide +kernel
theorem dX6_readRange_12 : decode cX6_readRange 12 = .ok (.aload_n 0, 1) := by decide +kernel
theorem dX6_readRange_13 : decode cX6_readRange 13 = .ok (.getfield 20, 3) := by decide +kernel
theorem dX6_readRange_16 : decode cX6_readRange 16 = .ok (.iload_n 1, 1) := by decide +kernel
theorem dX6_readRange_17 : decode cX6_readRange 17 = .ok (.aaload, 1) := by decide +kernel
theorem dX6_readRange_18 : decode cX6_readRange 18 = .ok (.iconst 0, 1) := by decide +kernel
theorem dX6_readRange_19 : decode cX6_readRange 19 = .ok (.bipush 19, 2) := by decide +kernel
theorem dX6_readRange_21 : decode cX6_readRange 21 = .ok (.iconst 1, 1) := by decide +kernel
theorem dX6_readRange_22 : decode cX6_readRange 22 = .ok (.invokestatic 174, 3) := by decide +kernel
theorem dX6_readRange_25 : decode cX6_readRange 25 = .ok (.aload_n 0, 1) := by decide +kernel
theorem dX6_readRange_26 : decode cX6_readRange 26 = .ok (.getfield 12, 3) := by decide +kernel
theorem dX6_readRange_29 : decode cX6_readRange 29 = .ok (.invokevirtual 92, 3) := by decide +kernel
theorem dX6_readRange_32 : decode cX6_readRange 32 = .ok (.iconst 1, 1) := by decide +kernel
theorem dX6_readRange_33 : decode cX6_readRange 33 = .ok (.ireturn, 1) := by decide +kernel
theorem dX6_readRange_34 : decode cX6_readRange 34 = .ok (.aload_n 0, 1) := by decide +kernel
theorem dX6_readRange_35 : decode cX6_readRange 35 = .ok (.iconst 0, 1) := by decide +kernel
theorem dX6_readRange_36 : decode cX6_readRange 36 = .ok (.bipush 19, 2) := by decide +kernel
theorem dX6_readRange_38 : decode cX6_readRange 38 = .ok (.invokevirtual 98, 3) := by decide +kernel
theorem dX6_readRange_41 : decode cX6_readRange 41 = .ok (.istore_n 2, 1) := by decide +kernel
theorem dX6_readRange_42 : decode cX6_readRange 42 = .ok (.iload_n 2, 1) := by decide +kernel
theorem dX6_readRange_43 : decode cX6_readRange 43 = .ok (.iconst (-1), 1) := by decide +kernel
theorem dX6_readRange_44 : decode cX6_readRange 44 = .ok (.if_icmp .ne 5, 3) := by decide +kernel
theorem dX6_readRange_47 : decode cX6_readRange 47 = .ok (.iconst 0, 1) := by decide +kernel
theorem dX6_readRange_48 : decode cX6_readRange 48 = .ok (.ireturn, 1) := by decide +kernel
theorem dX6_readRange_49 : decode cX6_readRange 49 = .ok (.iload_n 2, 1) := by decide +kernel
theorem dX6_readRange_50 : decode cX6_readRange 50 = .ok (.istore_n 3, 1) := by decide +kernel
theorem dX6_readRange_51 : decode cX6_readRange 51 = .ok (.aload_n 0, 1) := by decide +kernel
theorem dX6_readRange_52 : decode cX6_readRange 52 = .ok (.getfield 12, 3) := by decide +kernel
theorem dX6_readRange_55 : decode cX6_readRange 55 = .ok (.getfield 43, 3) := by decide +kernel
theorem dX6_readRange_58 : decode cX6_readRange 58 = .ok (.bipush 10, 2) := by decide +kernel
theorem dX6_readRange_60 : decode cX6_readRange 60 = .ok (.if_icmp .ne 25, 3) := by decide +kernel
theorem dX6_readRange_63 : decode cX6_readRange 63 = .ok (.aload_n 0, 1) := by decide +kernel
theorem dX6_readRange_64 : decode cX6_readRange 64 = .ok (.getfield 12, 3) := by decide +kernel
theorem dX6_readRange_67 : decode cX6_readRange 67 = .ok (.invokevirtual 92, 3) := by decide +kernel
theorem dX6_readRange_70 : decode cX6_readRange 70 = .ok (.aload_n 0, 1) := by decide +kernel
theorem dX6_readRange_71 : decode cX6_readRange 71 = .ok (.iload_n 2, 1) := by decide +kernel
theorem dX6_readRange_72 : decode cX6_readRange 72 = .ok (.bipush 19, 2) := by decide +kernel
theorem dX6_readRange_74 : decode cX6_readRange 74 = .ok (.invokevirtual 98, 3) := by decide +kernel
theorem dX6_readRange_77 : decode cX6_readRange 77 = .ok (.istore_n 3, 1) := by decide +kernel
theorem dX6_readRange_78 : decode cX6_readRange 78 = .ok (.iload_n 3, 1) := by decide +kernel
theorem dX6_readRange_79 : decode cX6_readRange 79 = .ok (.iconst (-1), 1) := by decide +kernel
theorem dX6_readRange_80 : decode cX6_readRange 80 = .ok (.if_icmp .ne 5, 3) := by decide +kernel
theorem dX6_readRange_83 : decode cX6_readRange 83 = .ok (.iconst 0, 1) := by decide +kernel
theorem dX6_readRange_84 : decode cX6_readRange 84 = .ok (.ireturn, 1) := by decide +kernel
theorem dX6_readRange_85 : decode cX6_readRange 85 = .ok (.aload_n 0, 1) := by decide +kernel
theorem dX6_readRange_86 : decode cX6_readRange 86 = .ok (.getfield 20, 3) := by decide +kernel
theorem dX6_readRange_89 : decode cX6_readRange 89 = .ok (.iload_n 1, 1) := by decide +kernel
theorem dX6_readRange_90 : decode cX6_readRange 90 = .ok (.aaload, 1) := by decide +kernel
theorem dX6_readRange_91 : decode cX6_readRange 91 = .ok (.iload_n 2, 1) := by decide +kernel
theorem dX6_readRange_92 : decode cX6_readRange 92 = .ok (.iload_n 3, 1) := by decide +kernel
theorem dX6_readRange_93 : decode cX6_readRange 93 = .ok (.iconst 1, 1) := by decide +kernel
theorem dX6_readRange_94 : decode cX6_readRange 94 = .ok (.invokestatic 174, 3) := by decide +kernel
theorem dX6_readRange_97 : decode cX6_readRange 97 = .ok (.iconst 1, 1) := by decide +kernel
theorem dX6_readRange_98 : decode cX6_readRange 98 = .ok (.ireturn, 1) := by decide +kernel
theorem dX6_readCase_0 : decode cX6_readCase 0 = .ok (.aload_n 0, 1) := by decide +kernel
theorem dX6_readCase_1 : decode cX6_readCase 1 = .ok (.getfield 27, 3) := by decide +kernel
theorem dX6_readCase_4 : decode cX6_readCase 4 = .ok (.getfield 108, 3) := by decide +kernel
theorem dX6_readCase_7 : decode cX6_readCase 7 = .ok (.astore 4, 2) := by decide +kernel
theorem dX6_readCase_9 : decode cX6_readCase 9 = .ok (.aload_n 0, 1) := by decide +kernel
theorem dX6_readCase_10 : decode cX6_readCase 10 = .ok (.getfield 12, 3) := by decide +kernel
theorem dX6_readCase_13 : decode cX6_readCase 13 = .ok (.getfield 43, 3) := by decide +kernel
theorem dX6_readCase_16 : decode cX6_readCase 16 = .ok (.bipush 8, 2) := by decide +kernel
theorem dX6_readCase_18 : decode cX6_readCase 18 = .ok (.if_icmp .ne 31, 3) := by decide +kernel
theorem dX6_readCase_21 : decode cX6_readCase 21 = .ok (.aload_n 0, 1) := by decide +kernel
theorem dX6_readCase_22 : decode cX6_readCase 22 = .ok (.getfield 20, 3) := by decide +kernel
theorem dX6_readCase_25 : decode cX6_readCase 25 = .ok (.iload_n 2, 1) := by decide +kernel
theorem dX6_readCase_26 : decode cX6_readCase 26 = .ok (.aaload, 1) := by decide +kernel
theorem dX6_readCase_27 : decode cX6_readCase 27 = .ok (.iconst 0, 1) := by decide +kernel
theorem dX6_readCase_28 : decode cX6_readCase 28 = .ok (.aload 4, 2) := by decide +kernel
theorem dX6_readCase_30 : decode cX6_readCase 30 = .ok (.iload_n 1, 1) := by decide +kernel
theorem dX6_readCase_31 : decode cX6_readCase 31 = .ok (.invokevirtual 146, 3) := by decide +kernel
theorem dX6_readCase_34 : decode cX6_readCase 34 = .ok (.iconst 1, 1) := by decide +kernel
theorem dX6_readCase_35 : decode cX6_readCase 35 = .ok (.isub, 1) := by decide +kernel
theorem dX6_readCase_36 : decode cX6_readCase 36 = .ok (.iconst 1, 1) := by decide +kernel
theorem dX6_readCase_37 : decode cX6_readCase 37 = .ok (.invokestatic 174, 3) := by decide +kernel
theorem dX6_readCase_40 : decode cX6_readCase 40 = .ok (.aload_n 0, 1) := by decide +kernel
theorem dX6_readCase_41 : decode cX6_readCase 41 = .ok (.getfield 12, 3) := by decide +kernel
theorem dX6_readCase_44 : decode cX6_readCase 44 = .ok (.invokevirtual 92, 3) := by decide +kernel
theorem dX6_readCase_47 : decode cX6_readCase 47 = .ok (.iconst 1, 1) := by decide +kernel
theorem dX6_readCase_48 : decode cX6_readCase 48 = .ok (.ireturn, 1) := by decide +kernel
theorem dX6_readCase_49 : decode cX6_readCase 49 = .ok (.aload_n 0, 1) := by decide +kernel
theorem dX6_readCase_50 : decode cX6_readCase 50 = .ok (.iload_n 1, 1) := by decide +kernel
theorem dX6_readCase_51 : decode cX6_readCase 51 = .ok (.invokevirtual 184, 3) := by decide +kernel
theorem dX6_readCase_54 : decode cX6_readCase 54 = .ok (.istore 5, 2) := by decide +kernel
theorem dX6_readCase_56 : decode cX6_readCase 56 = .ok (.iload 5, 2) := by decide +kernel
theorem dX6_readCase_58 : decode cX6_readCase 58 = .ok (.iconst (-1), 1) := by decide +kernel
theorem dX6_readCase_59 : decode cX6_readCase 59 = .ok (.if_icmp .ne 5, 3) := by decide +kernel
theorem dX6_readCase_62 : decode cX6_readCase 62 = .ok (.iconst 0, 1) := by decide +kernel
theorem dX6_readCase_63 : decode cX6_readCase 63 = .ok (.ireturn, 1) := by decide +kernel
theorem dX6_readCase_64 : decode cX6_readCase 64 = .ok (.aload 4, 2) := by decide +kernel
theorem dX6_readCase_66 : decode cX6_readCase 66 = .ok (.getfield 187, 3) := by decide +kernel
theorem dX6_readCase_69 : decode cX6_readCase 69 = .ok (.iload 5, 2) := by decide +kernel
theorem dX6_readCase_71 : decode cX6_readCase 71 = .ok (.iaload, 1) := by decide +kernel
theorem dX6_readCase_72 : decode cX6_readCase 72 = .ok (.ifCond .ne 31, 3) := by decide +kernel
theorem dX6_readCase_75 : decode cX6_readCase 75 = .ok (.aload_n 0, 1) := by decide +kernel
theorem dX6_readCase_76 : decode cX6_readCase 76 = .ok (.getfield 20, 3) := by decide +kernel
theorem dX6_readCase_79 : decode cX6_readCase 79 = .ok (.iload_n 2, 1) := by decide +kernel
theorem dX6_readCase_80 : decode cX6_readCase 80 = .ok (.aaload, 1) := by decide +kernel
theorem dX6_readCase_81 : decode cX6_readCase 81 = .ok (.aload 4, 2) := by decide +kernel
theorem dX6_readCase_83 : decode cX6_readCase 83 = .ok (.getfield 190, 3) := by decide +kernel
theorem dX6_readCase_86 : decode cX6_readCase 86 = .ok (.iload 5, 2) := by decide +kernel
theorem dX6_readCase_88 : decode cX6_readCase 88 = .ok (.iaload, 1) := by decide +kernel
theorem dX6_readCase_89 : decode cX6_readCase 89 = .ok (.aload 4, 2) := by decide +kernel
theorem dX6_readCase_91 : decode cX6_readCase 91 = .ok (.getfield 190, 3) := by decide +kernel
theorem dX6_readCase_94 : decode cX6_readCase 94 = .ok (.iload 5, 2) := by decide +kernel
theorem dX6_readCase_96 : decode cX6_readCase 96 = .ok (.iaload, 1) := by decide +kernel
theorem dX6_readCase_97 : decode cX6_readCase 97 = .ok (.iconst 1, 1) := by decide +kernel
theorem dX6_readCase_98 : decode cX6_readCase 98 = .ok (.invokestatic 174, 3) := by decide +kernel
theorem dX6_readCase_101 : decode cX6_readCase 101 = .ok (.iconst 1, 1) := by decide +kernel
theorem dX6_readCase_102 : decode cX6_readCase 102 = .ok (.ireturn, 1) := by decide +kernel
theorem dX6_readCase_103 : decode cX6_readCase 103 = .ok (.iconst 2, 1) := by decide +kernel
theorem dX6_readCase_104 : decode cX6_readCase 104 = .ok (.iload_n 3, 1) := by decide +kernel
theorem dX6_readCase_105 : decode cX6_readCase 105 = .ok (.iconst 1, 1) := by decide +kernel
theorem dX6_readCase_106 : decode cX6_readCase 106 = .ok (.iadd, 1) := by decide +kernel
theorem dX6_readCase_107 : decode cX6_readCase 107 = .ok (.imul, 1) := by decide +kernel
theorem dX6_readCase_108 : decode cX6_readCase 108 = .ok (.istore 6, 2) := by decide +kernel
theorem dX6_readCase_110 : decode cX6_readCase 110 = .ok (.aload_n 0, 1) := by decide +kernel
theorem dX6_readCase_111 : decode cX6_readCase 111 = .ok (.bipush 40, 2) := by decide +kernel
theorem dX6_readCase_113 : decode cX6_readCase 113 = .ok (.invokevirtual 68, 3) := by decide +kernel
theorem dX6_readCase_116 : decode cX6_readCase 116 = .ok (.ifCond .eq 23, 3) := by decide +kernel
theorem dX6_readCase_119 : decode cX6_readCase 119 = .ok (.aload_n 0, 1) := by decide +kernel
theorem dX6_readCase_120 : decode cX6_readCase 120 = .ok (.aload 4, 2) := by decide +kernel
theorem dX6_readCase_122 : decode cX6_readCase 122 = .ok (.getfield 193, 3) := by decide +kernel
theorem dX6_readCase_125 : decode cX6_readCase 125 = .ok (.iload 5, 2) := by decide +kernel
theorem dX6_readCase_127 : decode cX6_readCase 127 = .ok (.iaload, 1) := by decide +kernel
theorem dX6_readCase_128 : decode cX6_readCase 128 = .ok (.iload 6, 2) := by decide +kernel
theorem dX6_readCase_130 : decode cX6_readCase 130 = .ok (.iload_n 3, 1) := by decide +kernel
theorem dX6_readCase_131 : decode cX6_readCase 131 = .ok (.iconst 1, 1) := by decide +kernel
theorem dX6_readCase_132 : decode cX6_readCase 132 = .ok (.iadd, 1) := by decide +kernel
theorem dX6_readCase_133 : decode cX6_readCase 133 = .ok (.invokestatic 163, 3) := by decide +kernel
theorem dX6_readCase_136 : decode cX6_readCase 136 = .ok (.ifCond .ne 5, 3) := by decide +kernel
theorem dX6_readCase_139 : decode cX6_readCase 139 = .ok (.iconst 0, 1) := by decide +kernel
theorem dX6_readCase_140 : decode cX6_readCase 140 = .ok (.ireturn, 1) := by decide +kernel
theorem dX6_readCase_141 : decode cX6_readCase 141 = .ok (.aload 4, 2) := by decide +kernel
theorem dX6_readCase_143 : decode cX6_readCase 143 = .ok (.getfield 187, 3) := by decide +kernel
theorem dX6_readCase_146 : decode cX6_readCase 146 = .ok (.iload 5, 2) := by decide +kernel
theorem dX6_readCase_148 : decode cX6_readCase 148 = .ok (.iaload, 1) := by decide +kernel
theorem dX6_readCase_149 : decode cX6_readCase 149 = .ok (.iconst 2, 1) := by decide +kernel
theorem dX6_readCase_150 : decode cX6_readCase 150 = .ok (.if_icmp .ne 36, 3) := by decide +kernel
theorem dX6_readCase_153 : decode cX6_readCase 153 = .ok (.aload_n 0, 1) := by decide +kernel
theorem dX6_readCase_154 : decode cX6_readCase 154 = .ok (.bipush 44, 2) := by decide +kernel
theorem dX6_readCase_156 : decode cX6_readCase 156 = .ok (.invokevirtual 68, 3) := by decide +kernel
theorem dX6_readCase_159 : decode cX6_readCase 159 = .ok (.ifCond .eq 25, 3) := by decide +kernel
theorem dX6_readCase_162 : decode cX6_readCase 162 = .ok (.aload_n 0, 1) := by decide +kernel
theorem dX6_readCase_163 : decode cX6_readCase 163 = .ok (.aload 4, 2) := by decide +kernel
theorem dX6_readCase_165 : decode cX6_readCase 165 = .ok (.getfield 196, 3) := by decide +kernel
theorem dX6_readCase_168 : decode cX6_readCase 168 = .ok (.iload 5, 2) := by decide +kernel
theorem dX6_readCase_170 : decode cX6_readCase 170 = .ok (.iaload, 1) := by decide +kernel
theorem dX6_readCase_171 : decode cX6_readCase 171 = .ok (.iload 6, 2) := by decide +kernel
theorem dX6_readCase_173 : decode cX6_readCase 173 = .ok (.iconst 1, 1) := by decide +kernel
theorem dX6_readCase_174 : decode cX6_readCase 174 = .ok (.iadd, 1) := by decide +kernel
theorem dX6_readCase_175 : decode cX6_readCase 175 = .ok (.iload_n 3, 1) := by decide +kernel
theorem dX6_readCase_176 : decode cX6_readCase 176 = .ok (.iconst 1, 1) := by decide +kernel
theorem dX6_readCase_177 : decode cX6_readCase 177 = .ok (.iadd, 1) := by decide +kernel
theorem dX6_readCase_178 : decode cX6_readCase 178 = .ok (.invokestatic 163, 3) := by decide +kernel
theorem dX6_readCase_181 : decode cX6_readCase 181 = .ok (.ifCond .ne 5, 3) := by decide +kernel
theorem dX6_readCase_184 : decode cX6_readCase 184 = .ok (.iconst 0, 1) := by decide +kernel
theorem dX6_readCase_185 : decode cX6_readCase 185 = .ok (.ireturn, 1) := by decide +kernel
theorem dX6_readCase_186 : decode cX6_readCase 186 = .ok (.aload_n 0, 1) := by decide +kernel
theorem dX6_readCase_187 : decode cX6_readCase 187 = .ok (.iload 5, 2) := by decide +kernel
theorem dX6_readCase_189 : decode cX6_readCase 189 = .ok (.iload_n 2, 1) := by decide +kernel
theorem dX6_readCase_190 : decode cX6_readCase 190 = .ok (.iload 6, 2) := by decide +kernel
theorem dX6_readCase_192 : decode cX6_readCase 192 = .ok (.invokevirtual 199, 3) := by decide +kernel
theorem dX6_readCase_195 : decode cX6_readCase 195 = .ok (.aload_n 0, 1) := by decide +kernel
theorem dX6_readCase_196 : decode cX6_readCase 196 = .ok (.bipush 41, 2) := by decide +kernel
theorem dX6_readCase_198 : decode cX6_readCase 198 = .ok (.invokevirtual 68, 3) := by decide +kernel
theorem dX6_readCase_201 : decode cX6_readCase 201 = .ok (.ireturn, 1) := by decide +kernel
theorem dX6_readConName_0 : decode cX6_readConName 0 = .ok (.aload_n 0, 1) := by decide +kernel
theorem dX6_readConName_1 : decode cX6_readConName 1 = .ok (.getfield 12, 3) := by decide +kernel
theorem dX6_readConName_4 : decode cX6_readConName 4 = .ok (.invokevirtual 123, 3) := by decide +kernel
theorem dX6_readConName_7 : decode cX6_readConName 7 = .ok (.ifCond .ne 10, 3) := by decide +kernel
theorem dX6_readConName_10 : decode cX6_readConName 10 = .ok (.aload_n 0, 1) := by decide +kernel
theorem dX6_readConName_11 : decode cX6_readConName 11 = .ok (.invokevirtual 65, 3) := by decide +kernel
theorem dX6_readConName_14 : decode cX6_readConName 14 = .ok (.pop, 1) := by decide +kernel
theorem dX6_readConName_15 : decode cX6_readConName 15 = .ok (.iconst (-1), 1) := by decide +kernel
theorem dX6_readConName_16 : decode cX6_readConName 16 = .ok (.ireturn, 1) := by decide +kernel
theorem dX6_readConName_17 : decode cX6_readConName 17 = .ok (.aload_n 0, 1) := by decide +kernel
theorem dX6_readConName_18 : decode cX6_readConName 18 = .ok (.getfield 27, 3) := by decide +kernel
theorem dX6_readConName_21 : decode cX6_readConName 21 = .ok (.getfield 108, 3) := by decide +kernel
theorem dX6_readConName_24 : decode cX6_readConName 24 = .ok (.iload_n 1, 1) := by decide +kernel
theorem dX6_readConName_25 : decode cX6_readConName 25 = .ok (.aload_n 0, 1) := by decide +kernel
theorem dX6_readConName_26 : decode cX6_readConName 26 = .ok (.getfield 12, 3) := by decide +kernel
theorem dX6_readConName_29 : decode cX6_readConName 29 = .ok (.getfield 95, 3) := by decide +kernel
theorem dX6_readConName_32 : decode cX6_readConName 32 = .ok (.invokevirtual 203, 3) := by decide +kernel
theorem dX6_readConName_35 : decode cX6_readConName 35 = .ok (.istore_n 2, 1) := by decide +kernel
theorem dX6_readConName_36 : decode cX6_readConName 36 = .ok (.iload_n 2, 1) := by decide +kernel
theorem dX6_readConName_37 : decode cX6_readConName 37 = .ok (.iconst (-1), 1) := by decide +kernel
theorem dX6_readConName_38 : decode cX6_readConName 38 = .ok (.if_icmp .ne 18, 3) := by decide +kernel
theorem dX6_readConName_41 : decode cX6_readConName 41 = .ok (.aload_n 0, 1) := by decide +kernel
theorem dX6_readConName_42 : decode cX6_readConName 42 = .ok (.iconst 3, 1) := by decide +kernel
theorem dX6_readConName_43 : decode cX6_readConName 43 = .ok (.aload_n 0, 1) := by decide +kernel
theorem dX6_readConName_44 : decode cX6_readConName 44 = .ok (.getfield 12, 3) := by decide +kernel
theorem dX6_readConName_47 : decode cX6_readConName 47 = .ok (.getfield 72, 3) := by decide +kernel
theorem dX6_readConName_50 : decode cX6_readConName 50 = .ok (.invokevirtual 75, 3) := by decide +kernel
theorem dX6_readConName_53 : decode cX6_readConName 53 = .ok (.pop, 1) := by decide +kernel
theorem dX6_readConName_54 : decode cX6_readConName 54 = .ok (.iconst (-1), 1) := by decide +kernel
theorem dX6_readConName_55 : decode cX6_readConName 55 = .ok (.ireturn, 1) := by decide +kernel
theorem dX6_readConName_56 : decode cX6_readConName 56 = .ok (.aload_n 0, 1) := by decide +kernel
theorem dX6_readConName_57 : decode cX6_readConName 57 = .ok (.getfield 12, 3) := by decide +kernel
theorem dX6_readConName_60 : decode cX6_readConName 60 = .ok (.invokevirtual 92, 3) := by decide +kernel
theorem dX6_readConName_63 : decode cX6_readConName 63 = .ok (.iload_n 2, 1) := by decide +kernel
theorem dX6_readConName_64 : decode cX6_readConName 64 = .ok (.ireturn, 1) := by decide +kernel
theorem dX6_fillCase_0 : decode cX6_fillCase 0 = .ok (.iload_n 3, 1) := by decide +kernel
theorem dX6_fillCase_1 : decode cX6_fillCase 1 = .ok (.ifCond .lt 14, 3) := by decide +kernel
theorem dX6_fillCase_4 : decode cX6_fillCase 4 = .ok (.iload_n 3, 1) := by decide +kernel
theorem dX6_fillCase_5 : decode cX6_fillCase 5 = .ok (.iconst 1, 1) := by decide +kernel
theorem dX6_fillCase_6 : decode cX6_fillCase 6 = .ok (.iadd, 1) := by decide +kernel
theorem dX6_fillCase_7 : decode cX6_fillCase 7 = .ok (.aload_n 0, 1) := by decide +kernel
theorem dX6_fillCase_8 : decode cX6_fillCase 8 = .ok (.getfield 20, 3) := by decide +kernel
theorem dX6_fillCase_11 : decode cX6_fillCase 11 = .ok (.arraylength, 1) := by decide +kernel
theorem dX6_fillCase_12 : decode cX6_fillCase 12 = .ok (.if_icmp .lt 4, 3) := by decide +kernel
theorem dX6_fillCase_15 : decode cX6_fillCase 15 = .ok (.return_, 1) := by decide +kernel
theorem dX6_fillCase_16 : decode cX6_fillCase 16 = .ok (.aload_n 0, 1) := by decide +kernel
theorem dX6_fillCase_17 : decode cX6_fillCase 17 = .ok (.getfield 27, 3) := by decide +kernel
theorem dX6_fillCase_20 : decode cX6_fillCase 20 = .ok (.getfield 108, 3) := by decide +kernel
theorem dX6_fillCase_23 : decode cX6_fillCase 23 = .ok (.astore 4, 2) := by decide +kernel
theorem dX6_fillCase_25 : decode cX6_fillCase 25 = .ok (.aload 4, 2) := by decide +kernel
theorem dX6_fillCase_27 : decode cX6_fillCase 27 = .ok (.aload 4, 2) := by decide +kernel
theorem dX6_fillCase_29 : decode cX6_fillCase 29 = .ok (.getfield 193, 3) := by decide +kernel
theorem dX6_fillCase_32 : decode cX6_fillCase 32 = .ok (.iload_n 1, 1) := by decide +kernel
theorem dX6_fillCase_33 : decode cX6_fillCase 33 = .ok (.iaload, 1) := by decide +kernel
theorem dX6_fillCase_34 : decode cX6_fillCase 34 = .ok (.invokevirtual 146, 3) := by decide +kernel
theorem dX6_fillCase_37 : decode cX6_fillCase 37 = .ok (.istore 5, 2) := by decide +kernel
theorem dX6_fillCase_39 : decode cX6_fillCase 39 = .ok (.aload 4, 2) := by decide +kernel
theorem dX6_fillCase_41 : decode cX6_fillCase 41 = .ok (.iload_n 1, 1) := by decide +kernel
theorem dX6_fillCase_42 : decode cX6_fillCase 42 = .ok (.invokevirtual 206, 3) := by decide +kernel
theorem dX6_fillCase_45 : decode cX6_fillCase 45 = .ok (.istore 6, 2) := by decide +kernel
theorem dX6_fillCase_47 : decode cX6_fillCase 47 = .ok (.aload 4, 2) := by decide +kernel
theorem dX6_fillCase_49 : decode cX6_fillCase 49 = .ok (.getfield 187, 3) := by decide +kernel
theorem dX6_fillCase_52 : decode cX6_fillCase 52 = .ok (.iload_n 1, 1) := by decide +kernel
theorem dX6_fillCase_53 : decode cX6_fillCase 53 = .ok (.iaload, 1) := by decide +kernel
theorem dX6_fillCase_54 : decode cX6_fillCase 54 = .ok (.iconst 2, 1) := by decide +kernel
theorem dX6_fillCase_55 : decode cX6_fillCase 55 = .ok (.if_icmp .ge 7, 3) := by decide +kernel
theorem dX6_fillCase_58 : decode cX6_fillCase 58 = .ok (.iconst 1, 1) := by decide +kernel
theorem dX6_fillCase_59 : decode cX6_fillCase 59 = .ok (.goto 4, 3) := by decide +kernel
theorem dX6_fillCase_62 : decode cX6_fillCase 62 = .ok (.iconst 0, 1) := by decide +kernel
theorem dX6_fillCase_63 : decode cX6_fillCase 63 = .ok (.istore 7, 2) := by decide +kernel
theorem dX6_fillCase_65 : decode cX6_fillCase 65 = .ok (.iconst 0, 1) := by decide +kernel
theorem dX6_fillCase_66 : decode cX6_fillCase 66 = .ok (.istore 8, 2) := by decide +kernel
theorem dX6_fillCase_68 : decode cX6_fillCase 68 = .ok (.iload 8, 2) := by decide +kernel
theorem dX6_fillCase_70 : decode cX6_fillCase 70 = .ok (.iload 5, 2) := by decide +kernel
theorem dX6_fillCase_72 : decode cX6_fillCase 72 = .ok (.if_icmp .ge 110, 3) := by decide +kernel
theorem dX6_fillCase_75 : decode cX6_fillCase 75 = .ok (.iload 8, 2) := by decide +kernel
theorem dX6_fillCase_77 : decode cX6_fillCase 77 = .ok (.sipush 2048, 3) := by decide +kernel
theorem dX6_fillCase_80 : decode cX6_fillCase 80 = .ok (.if_icmp .ge 102, 3) := by decide +kernel
theorem dX6_fillCase_83 : decode cX6_fillCase 83 = .ok (.aload_n 0, 1) := by decide +kernel
theorem dX6_fillCase_84 : decode cX6_fillCase 84 = .ok (.getfield 20, 3) := by decide +kernel
theorem dX6_fillCase_87 : decode cX6_fillCase 87 = .ok (.iload_n 3, 1) := by decide +kernel
theorem dX6_fillCase_88 : decode cX6_fillCase 88 = .ok (.aaload, 1) := by decide +kernel
theorem dX6_fillCase_89 : decode cX6_fillCase 89 = .ok (.iload 8, 2) := by decide +kernel
theorem dX6_fillCase_91 : decode cX6_fillCase 91 = .ok (.iaload, 1) := by decide +kernel
theorem dX6_fillCase_92 : decode cX6_fillCase 92 = .ok (.ifCond .ne 6, 3) := by decide +kernel
theorem dX6_fillCase_95 : decode cX6_fillCase 95 = .ok (.goto 81, 3) := by decide +kernel
theorem dX6_fillCase_98 : decode cX6_fillCase 98 = .ok (.aload 4, 2) := by decide +kernel
theorem dX6_fillCase_100 : decode cX6_fillCase 100 = .ok (.getfield 190, 3) := by decide +kernel
theorem dX6_fillCase_103 : decode cX6_fillCase 103 = .ok (.iload_n 1, 1) := by decide +kernel
theorem dX6_fillCase_104 : decode cX6_fillCase 104 = .ok (.iaload, 1) := by decide +kernel
theorem dX6_fillCase_105 : decode cX6_fillCase 105 = .ok (.iload 8, 2) := by decide +kernel
theorem dX6_fillCase_107 : decode cX6_fillCase 107 = .ok (.iload 6, 2) := by decide +kernel
theorem dX6_fillCase_109 : decode cX6_fillCase 109 = .ok (.imul, 1) := by decide +kernel
theorem dX6_fillCase_110 : decode cX6_fillCase 110 = .ok (.iadd, 1) := by decide +kernel
theorem dX6_fillCase_111 : decode cX6_fillCase 111 = .ok (.istore 9, 2) := by decide +kernel
theorem dX6_fillCase_113 : decode cX6_fillCase 113 = .ok (.iconst 0, 1) := by decide +kernel
theorem dX6_fillCase_114 : decode cX6_fillCase 114 = .ok (.istore 10, 2) := by decide +kernel
theorem dX6_fillCase_116 : decode cX6_fillCase 116 = .ok (.iload 10, 2) := by decide +kernel
theorem dX6_fillCase_118 : decode cX6_fillCase 118 = .ok (.iload 6, 2) := by decide +kernel
theorem dX6_fillCase_120 : decode cX6_fillCase 120 = .ok (.if_icmp .ge 56, 3) := by decide +kernel
