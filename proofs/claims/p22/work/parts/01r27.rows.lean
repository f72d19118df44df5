section
section
theorem dX12_see_212 : decode cX12_see 212 = .ok (.goto (-75), 3) := dq_167 (a := 255) (b := 181) (fd_r fcX12_see (by decide +kernel)) rfl
theorem dX12_see_215 : decode cX12_see 215 = .ok (.aload_n 0, 1) := dq_42 (fd_r fcX12_see (by decide +kernel))
theorem dX12_see_216 : decode cX12_see 216 = .ok (.getfield 291, 3) := dq_180 (a := 1) (b := 35) (fd_r fcX12_see (by decide +kernel)) rfl
theorem dX12_see_219 : decode cX12_see 219 = .ok (.ireturn, 1) := dq_172 (fd_r fcX12_see (by decide +kernel))
theorem dX12_leaves_0 : decode cX12_leaves 0 = .ok (.aload_n 0, 1) := dq_42 (fd_r fcX12_leaves (by decide +kernel))
theorem dX12_leaves_1 : decode cX12_leaves 1 = .ok (.iconst 0, 1) := dq_3 (fd_r fcX12_leaves (by decide +kernel))
theorem dX12_leaves_2 : decode cX12_leaves 2 = .ok (.invokevirtual 501, 3) := dq_182 (a := 1) (b := 245) (fd_r fcX12_leaves (by decide +kernel)) rfl
theorem dX12_leaves_5 : decode cX12_leaves 5 = .ok (.iconst 0, 1) := dq_3 (fd_r fcX12_leaves (by decide +kernel))
theorem dX12_leaves_6 : decode cX12_leaves 6 = .ok (.istore_n 1, 1) := dq_60 (fd_r fcX12_leaves (by decide +kernel))
theorem dX12_leaves_7 : decode cX12_leaves 7 = .ok (.iconst 0, 1) := dq_3 (fd_r fcX12_leaves (by decide +kernel))
theorem dX12_leaves_8 : decode cX12_leaves 8 = .ok (.istore_n 2, 1) := dq_61 (fd_r fcX12_leaves (by decide +kernel))
theorem dX12_leaves_9 : decode cX12_leaves 9 = .ok (.iload_n 2, 1) := dq_28 (fd_r fcX12_leaves (by decide +kernel))
theorem dX12_leaves_10 : decode cX12_leaves 10 = .ok (.sipush 256, 3) := dq_17 (a := 1) (b := 0) (fd_r fcX12_leaves (by decide +kernel)) rfl
theorem dX12_leaves_13 : decode cX12_leaves 13 = .ok (.if_icmp .ge 27, 3) := dq_162 (a := 0) (b := 27) (fd_r fcX12_leaves (by decide +kernel)) rfl
theorem dX12_leaves_16 : decode cX12_leaves 16 = .ok (.aload_n 0, 1) := dq_42 (fd_r fcX12_leaves (by decide +kernel))
theorem dX12_leaves_17 : decode cX12_leaves 17 = .ok (.getfield 300, 3) := dq_180 (a := 1) (b := 44) (fd_r fcX12_leaves (by decide +kernel)) rfl
theorem dX12_leaves_20 : decode cX12_leaves 20 = .ok (.iload_n 2, 1) := dq_28 (fd_r fcX12_leaves (by decide +kernel))
theorem dX12_leaves_21 : decode cX12_leaves 21 = .ok (.iconst 1, 1) := dq_4 (fd_r fcX12_leaves (by decide +kernel))
theorem dX12_leaves_22 : decode cX12_leaves 22 = .ok (.iastore, 1) := dq_79 (fd_r fcX12_leaves (by decide +kernel))
theorem dX12_leaves_23 : decode cX12_leaves 23 = .ok (.aload_n 0, 1) := dq_42 (fd_r fcX12_leaves (by decide +kernel))
theorem dX12_leaves_24 : decode cX12_leaves 24 = .ok (.getfield 303, 3) := dq_180 (a := 1) (b := 47) (fd_r fcX12_leaves (by decide +kernel)) rfl
theorem dX12_leaves_27 : decode cX12_leaves 27 = .ok (.iload_n 2, 1) := dq_28 (fd_r fcX12_leaves (by decide +kernel))
theorem dX12_leaves_28 : decode cX12_leaves 28 = .ok (.aload_n 0, 1) := dq_42 (fd_r fcX12_leaves (by decide +kernel))
theorem dX12_leaves_29 : decode cX12_leaves 29 = .ok (.iload_n 2, 1) := dq_28 (fd_r fcX12_leaves (by decide +kernel))
theorem dX12_leaves_30 : decode cX12_leaves 30 = .ok (.invokevirtual 492, 3) := dq_182 (a := 1) (b := 236) (fd_r fcX12_leaves (by decide +kernel)) rfl
theorem dX12_leaves_33 : decode cX12_leaves 33 = .ok (.iastore, 1) := dq_79 (fd_r fcX12_leaves (by decide +kernel))
theorem dX12_leaves_34 : decode cX12_leaves 34 = .ok (.iinc 2 1, 3) := dq_132 (a := 2) (b := 1) (fd_r fcX12_leaves (by decide +kernel)) rfl
theorem dX12_leaves_37 : decode cX12_leaves 37 = .ok (.goto (-28), 3) := dq_167 (a := 255) (b := 228) (fd_r fcX12_leaves (by decide +kernel)) rfl
theorem dX12_leaves_40 : decode cX12_leaves 40 = .ok (.iconst 0, 1) := dq_3 (fd_r fcX12_leaves (by decide +kernel))
theorem dX12_leaves_41 : decode cX12_leaves 41 = .ok (.istore_n 2, 1) := dq_61 (fd_r fcX12_leaves (by decide +kernel))
theorem dX12_leaves_42 : decode cX12_leaves 42 = .ok (.iload_n 2, 1) := dq_28 (fd_r fcX12_leaves (by decide +kernel))
theorem dX12_leaves_43 : decode cX12_leaves 43 = .ok (.aload_n 0, 1) := dq_42 (fd_r fcX12_leaves (by decide +kernel))
theorem dX12_leaves_44 : decode cX12_leaves 44 = .ok (.getfield 291, 3) := dq_180 (a := 1) (b := 35) (fd_r fcX12_leaves (by decide +kernel)) rfl
theorem dX12_leaves_47 : decode cX12_leaves 47 = .ok (.if_icmp .ge 66, 3) := dq_162 (a := 0) (b := 66) (fd_r fcX12_leaves (by decide +kernel)) rfl
theorem dX12_leaves_50 : decode cX12_leaves 50 = .ok (.aload_n 0, 1) := dq_42 (fd_r fcX12_leaves (by decide +kernel))
theorem dX12_leaves_51 : decode cX12_leaves 51 = .ok (.aload_n 0, 1) := dq_42 (fd_r fcX12_leaves (by decide +kernel))
theorem dX12_leaves_52 : decode cX12_leaves 52 = .ok (.getfield 294, 3) := dq_180 (a := 1) (b := 38) (fd_r fcX12_leaves (by decide +kernel)) rfl
theorem dX12_leaves_55 : decode cX12_leaves 55 = .ok (.iload_n 2, 1) := dq_28 (fd_r fcX12_leaves (by decide +kernel))
theorem dX12_leaves_56 : decode cX12_leaves 56 = .ok (.iaload, 1) := dq_46 (fd_r fcX12_leaves (by decide +kernel))
theorem dX12_leaves_57 : decode cX12_leaves 57 = .ok (.invokevirtual 484, 3) := dq_182 (a := 1) (b := 228) (fd_r fcX12_leaves (by decide +kernel)) rfl
theorem dX12_leaves_60 : decode cX12_leaves 60 = .ok (.istore_n 3, 1) := dq_62 (fd_r fcX12_leaves (by decide +kernel))
theorem dX12_leaves_61 : decode cX12_leaves 61 = .ok (.iconst 0, 1) := dq_3 (fd_r fcX12_leaves (by decide +kernel))
theorem dX12_leaves_62 : decode cX12_leaves 62 = .ok (.istore 4, 2) := dq_54 (a := 4) (fd_r fcX12_leaves (by decide +kernel))
theorem dX12_leaves_64 : decode cX12_leaves 64 = .ok (.iload 4, 2) := dq_21 (a := 4) (fd_r fcX12_leaves (by decide +kernel))
theorem dX12_leaves_66 : decode cX12_leaves 66 = .ok (.sipush 256, 3) := dq_17 (a := 1) (b := 0) (fd_r fcX12_leaves (by decide +kernel)) rfl
theorem dX12_leaves_69 : decode cX12_leaves 69 = .ok (.if_icmp .ge 38, 3) := dq_162 (a := 0) (b := 38) (fd_r fcX12_leaves (by decide +kernel)) rfl
theorem dX12_leaves_72 : decode cX12_leaves 72 = .ok (.iload_n 3, 1) := dq_29 (fd_r fcX12_leaves (by decide +kernel))
theorem dX12_leaves_73 : decode cX12_leaves 73 = .ok (.aload_n 0, 1) := dq_42 (fd_r fcX12_leaves (by decide +kernel))
theorem dX12_leaves_74 : decode cX12_leaves 74 = .ok (.getfield 303, 3) := dq_180 (a := 1) (b := 47) (fd_r fcX12_leaves (by decide +kernel)) rfl
theorem dX12_leaves_77 : decode cX12_leaves 77 = .ok (.iload 4, 2) := dq_21 (a := 4) (fd_r fcX12_leaves (by decide +kernel))
theorem dX12_leaves_79 : decode cX12_leaves 79 = .ok (.iaload, 1) := dq_46 (fd_r fcX12_leaves (by decide +kernel))
theorem dX12_leaves_80 : decode cX12_leaves 80 = .ok (.iand, 1) := dq_126 (fd_r fcX12_leaves (by decide +kernel))
theorem dX12_leaves_81 : decode cX12_leaves 81 = .ok (.invokestatic 495, 3) := dq_184 (a := 1) (b := 239) (fd_r fcX12_leaves (by decide +kernel)) rfl
theorem dX12_leaves_84 : decode cX12_leaves 84 = .ok (.aload_n 0, 1) := dq_42 (fd_r fcX12_leaves (by decide +kernel))
theorem dX12_leaves_85 : decode cX12_leaves 85 = .ok (.getfield 297, 3) := dq_180 (a := 1) (b := 41) (fd_r fcX12_leaves (by decide +kernel)) rfl
theorem dX12_leaves_88 : decode cX12_leaves 88 = .ok (.iload_n 2, 1) := dq_28 (fd_r fcX12_leaves (by decide +kernel))
theorem dX12_leaves_89 : decode cX12_leaves 89 = .ok (.iaload, 1) := dq_46 (fd_r fcX12_leaves (by decide +kernel))
theorem dX12_leaves_90 : decode cX12_leaves 90 = .ok (.if_icmp .eq 11, 3) := dq_159 (a := 0) (b := 11) (fd_r fcX12_leaves (by decide +kernel)) rfl
theorem dX12_leaves_93 : decode cX12_leaves 93 = .ok (.aload_n 0, 1) := dq_42 (fd_r fcX12_leaves (by decide +kernel))
theorem dX12_leaves_94 : decode cX12_leaves 94 = .ok (.getfield 300, 3) := dq_180 (a := 1) (b := 44) (fd_r fcX12_leaves (by decide +kernel)) rfl
theorem dX12_leaves_97 : decode cX12_leaves 97 = .ok (.iload 4, 2) := dq_21 (a := 4) (fd_r fcX12_leaves (by decide +kernel))
theorem dX12_leaves_99 : decode cX12_leaves 99 = .ok (.iconst 0, 1) := dq_3 (fd_r fcX12_leaves (by decide +kernel))
theorem dX12_leaves_100 : decode cX12_leaves 100 = .ok (.iastore, 1) := dq_79 (fd_r fcX12_leaves (by decide +kernel))
theorem dX12_leaves_101 : decode cX12_leaves 101 = .ok (.iinc 4 1, 3) := dq_132 (a := 4) (b := 1) (fd_r fcX12_leaves (by decide +kernel)) rfl
theorem dX12_leaves_104 : decode cX12_leaves 104 = .ok (.goto (-40), 3) := dq_167 (a := 255) (b := 216) (fd_r fcX12_leaves (by decide +kernel)) rfl
theorem dX12_leaves_107 : decode cX12_leaves 107 = .ok (.iinc 2 1, 3) := dq_132 (a := 2) (b := 1) (fd_r fcX12_leaves (by decide +kernel)) rfl
theorem dX12_leaves_110 : decode cX12_leaves 110 = .ok (.goto (-68), 3) := dq_167 (a := 255) (b := 188) (fd_r fcX12_leaves (by decide +kernel)) rfl
theorem dX12_leaves_113 : decode cX12_leaves 113 = .ok (.iconst 0, 1) := dq_3 (fd_r fcX12_leaves (by decide +kernel))
theorem dX12_leaves_114 : decode cX12_leaves 114 = .ok (.istore_n 2, 1) := dq_61 (fd_r fcX12_leaves (by decide +kernel))
theorem dX12_leaves_115 : decode cX12_leaves 115 = .ok (.iload_n 2, 1) := dq_28 (fd_r fcX12_leaves (by decide +kernel))
theorem dX12_leaves_116 : decode cX12_leaves 116 = .ok (.sipush 256, 3) := dq_17 (a := 1) (b := 0) (fd_r fcX12_leaves (by decide +kernel)) rfl
theorem dX12_leaves_119 : decode cX12_leaves 119 = .ok (.if_icmp .ge 18, 3) := dq_162 (a := 0) (b := 18) (fd_r fcX12_leaves (by decide +kernel)) rfl
theorem dX12_leaves_122 : decode cX12_leaves 122 = .ok (.iload_n 1, 1) := dq_27 (fd_r fcX12_leaves (by decide +kernel))
theorem dX12_leaves_123 : decode cX12_leaves 123 = .ok (.aload_n 0, 1) := dq_42 (fd_r fcX12_leaves (by decide +kernel))
theorem dX12_leaves_124 : decode cX12_leaves 124 = .ok (.getfield 300, 3) := dq_180 (a := 1) (b := 44) (fd_r fcX12_leaves (by decide +kernel)) rfl
theorem dX12_leaves_127 : decode cX12_leaves 127 = .ok (.iload_n 2, 1) := dq_28 (fd_r fcX12_leaves (by decide +kernel))
theorem dX12_leaves_128 : decode cX12_leaves 128 = .ok (.iaload, 1) := dq_46 (fd_r fcX12_leaves (by decide +kernel))
theorem dX12_leaves_129 : decode cX12_leaves 129 = .ok (.iadd, 1) := dq_96 (fd_r fcX12_leaves (by decide +kernel))
theorem dX12_leaves_130 : decode cX12_leaves 130 = .ok (.istore_n 1, 1) := dq_60 (fd_r fcX12_leaves (by decide +kernel))
theorem dX12_leaves_131 : decode cX12_leaves 131 = .ok (.iinc 2 1, 3) := dq_132 (a := 2) (b := 1) (fd_r fcX12_leaves (by decide +kernel)) rfl
theorem dX12_leaves_134 : decode cX12_leaves 134 = .ok (.goto (-19), 3) := dq_167 (a := 255) (b := 237) (fd_r fcX12_leaves (by decide +kernel)) rfl
theorem dX12_leaves_137 : decode cX12_leaves 137 = .ok (.iload_n 1, 1) := dq_27 (fd_r fcX12_leaves (by decide +kernel))
theorem dX12_leaves_138 : decode cX12_leaves 138 = .ok (.ireturn, 1) := dq_172 (fd_r fcX12_leaves (by decide +kernel))
theorem dX12_sets_0 : decode cX12_sets 0 = .ok (.aload_n 0, 1) := dq_42 (fd_r fcX12_sets (by decide +kernel))
theorem dX12_sets_1 : decode cX12_sets 1 = .ok (.getfield 146, 3) := dq_180 (a := 0) (b := 146) (fd_r fcX12_sets (by decide +kernel)) rfl
theorem dX12_sets_4 : decode cX12_sets 4 = .ok (.ifCond .eq 8, 3) := dq_153 (a := 0) (b := 8) (fd_r fcX12_sets (by decide +kernel)) rfl
theorem dX12_sets_7 : decode cX12_sets 7 = .ok (.iload_n 1, 1) := dq_27 (fd_r fcX12_sets (by decide +kernel))
theorem dX12_sets_8 : decode cX12_sets 8 = .ok (.iconst (-1), 1) := dq_2 (fd_r fcX12_sets (by decide +kernel))
theorem dX12_sets_9 : decode cX12_sets 9 = .ok (.if_icmp .ge 5, 3) := dq_162 (a := 0) (b := 5) (fd_r fcX12_sets (by decide +kernel)) rfl
theorem dX12_sets_12 : decode cX12_sets 12 = .ok (.iconst (-1), 1) := dq_2 (fd_r fcX12_sets (by decide +kernel))
theorem dX12_sets_13 : decode cX12_sets 13 = .ok (.ireturn, 1) := dq_172 (fd_r fcX12_sets (by decide +kernel))
theorem dX12_sets_14 : decode cX12_sets 14 = .ok (.aload_n 0, 1) := dq_42 (fd_r fcX12_sets (by decide +kernel))
theorem dX12_sets_15 : decode cX12_sets 15 = .ok (.invokevirtual 621, 3) := dq_182 (a := 2) (b := 109) (fd_r fcX12_sets (by decide +kernel)) rfl
theorem dX12_sets_18 : decode cX12_sets 18 = .ok (.istore_n 2, 1) := dq_61 (fd_r fcX12_sets (by decide +kernel))
theorem dX12_sets_19 : decode cX12_sets 19 = .ok (.iload_n 1, 1) := dq_27 (fd_r fcX12_sets (by decide +kernel))
theorem dX12_sets_20 : decode cX12_sets 20 = .ok (.iconst (-1), 1) := dq_2 (fd_r fcX12_sets (by decide +kernel))
theorem dX12_sets_21 : decode cX12_sets 21 = .ok (.if_icmp .ne 5, 3) := dq_160 (a := 0) (b := 5) (fd_r fcX12_sets (by decide +kernel)) rfl
theorem dX12_sets_24 : decode cX12_sets 24 = .ok (.iload_n 2, 1) := dq_28 (fd_r fcX12_sets (by decide +kernel))
theorem dX12_sets_25 : decode cX12_sets 25 = .ok (.ireturn, 1) := dq_172 (fd_r fcX12_sets (by decide +kernel))
theorem dX12_sets_26 : decode cX12_sets 26 = .ok (.iconst 0, 1) := dq_3 (fd_r fcX12_sets (by decide +kernel))
theorem dX12_sets_27 : decode cX12_sets 27 = .ok (.istore_n 3, 1) := dq_62 (fd_r fcX12_sets (by decide +kernel))
theorem dX12_sets_28 : decode cX12_sets 28 = .ok (.iconst 0, 1) := dq_3 (fd_r fcX12_sets (by decide +kernel))
theorem dX12_sets_29 : decode cX12_sets 29 = .ok (.istore 4, 2) := dq_54 (a := 4) (fd_r fcX12_sets (by decide +kernel))
theorem dX12_sets_31 : decode cX12_sets 31 = .ok (.iload 4, 2) := dq_21 (a := 4) (fd_r fcX12_sets (by decide +kernel))
theorem dX12_sets_33 : decode cX12_sets 33 = .ok (.sipush 256, 3) := dq_17 (a := 1) (b := 0) (fd_r fcX12_sets (by decide +kernel)) rfl
theorem dX12_sets_36 : decode cX12_sets 36 = .ok (.if_icmp .ge 38, 3) := dq_162 (a := 0) (b := 38) (fd_r fcX12_sets (by decide +kernel)) rfl
theorem dX12_sets_39 : decode cX12_sets 39 = .ok (.aload_n 0, 1) := dq_42 (fd_r fcX12_sets (by decide +kernel))
theorem dX12_sets_40 : decode cX12_sets 40 = .ok (.getfield 300, 3) := dq_180 (a := 1) (b := 44) (fd_r fcX12_sets (by decide +kernel)) rfl
theorem dX12_sets_43 : decode cX12_sets 43 = .ok (.iload 4, 2) := dq_21 (a := 4) (fd_r fcX12_sets (by decide +kernel))
theorem dX12_sets_45 : decode cX12_sets 45 = .ok (.iaload, 1) := dq_46 (fd_r fcX12_sets (by decide +kernel))
theorem dX12_sets_46 : decode cX12_sets 46 = .ok (.iconst 1, 1) := dq_4 (fd_r fcX12_sets (by decide +kernel))
theorem dX12_sets_47 : decode cX12_sets 47 = .ok (.if_icmp .ne 11, 3) := dq_160 (a := 0) (b := 11) (fd_r fcX12_sets (by decide +kernel)) rfl
theorem dX12_sets_50 : decode cX12_sets 50 = .ok (.iload_n 3, 1) := dq_29 (fd_r fcX12_sets (by decide +kernel))
theorem dX12_sets_51 : decode cX12_sets 51 = .ok (.iload_n 1, 1) := dq_27 (fd_r fcX12_sets (by decide +kernel))
theorem dX12_sets_52 : decode cX12_sets 52 = .ok (.if_icmp .ne 6, 3) := dq_160 (a := 0) (b := 6) (fd_r fcX12_sets (by decide +kernel)) rfl
theorem dX12_sets_55 : decode cX12_sets 55 = .ok (.iload 4, 2) := dq_21 (a := 4) (fd_r fcX12_sets (by decide +kernel))
theorem dX12_sets_57 : decode cX12_sets 57 = .ok (.ireturn, 1) := dq_172 (fd_r fcX12_sets (by decide +kernel))
theorem dX12_sets_58 : decode cX12_sets 58 = .ok (.iload_n 3, 1) := dq_29 (fd_r fcX12_sets (by decide +kernel))
theorem dX12_sets_59 : decode cX12_sets 59 = .ok (.aload_n 0, 1) := dq_42 (fd_r fcX12_sets (by decide +kernel))
theorem dX12_sets_60 : decode cX12_sets 60 = .ok (.getfield 300, 3) := dq_180 (a := 1) (b := 44) (fd_r fcX12_sets (by decide +kernel)) rfl
theorem dX12_sets_63 : decode cX12_sets 63 = .ok (.iload 4, 2) := dq_21 (a := 4) (fd_r fcX12_sets (by decide +kernel))
theorem dX12_sets_65 : decode cX12_sets 65 = .ok (.iaload, 1) := dq_46 (fd_r fcX12_sets (by decide +kernel))
theorem dX12_sets_66 : decode cX12_sets 66 = .ok (.iadd, 1) := dq_96 (fd_r fcX12_sets (by decide +kernel))
theorem dX12_sets_67 : decode cX12_sets 67 = .ok (.istore_n 3, 1) := dq_62 (fd_r fcX12_sets (by decide +kernel))
theorem dX12_sets_68 : decode cX12_sets 68 = .ok (.iinc 4 1, 3) := dq_132 (a := 4) (b := 1) (fd_r fcX12_sets (by decide +kernel)) rfl
theorem dX12_sets_71 : decode cX12_sets 71 = .ok (.goto (-40), 3) := dq_167 (a := 255) (b := 216) (fd_r fcX12_sets (by decide +kernel)) rfl
theorem dX12_sets_74 : decode cX12_sets 74 = .ok (.iconst (-1), 1) := dq_2 (fd_r fcX12_sets (by decide +kernel))
theorem dX12_sets_75 : decode cX12_sets 75 = .ok (.ireturn, 1) := dq_172 (fd_r fcX12_sets (by decide +kernel))
theorem dX12_mostBy_0 : decode cX12_mostBy 0 = .ok (.aload_n 0, 1) := dq_42 (fd_r fcX12_mostBy (by decide +kernel))
theorem dX12_mostBy_1 : decode cX12_mostBy 1 = .ok (.iload_n 1, 1) := dq_27 (fd_r fcX12_mostBy (by decide +kernel))
theorem dX12_mostBy_2 : decode cX12_mostBy 2 = .ok (.invokevirtual 484, 3) := dq_182 (a := 1) (b := 228) (fd_r fcX12_mostBy (by decide +kernel)) rfl
theorem dX12_mostBy_5 : decode cX12_mostBy 5 = .ok (.istore_n 2, 1) := dq_61 (fd_r fcX12_mostBy (by decide +kernel))
theorem dX12_mostBy_6 : decode cX12_mostBy 6 = .ok (.iconst 0, 1) := dq_3 (fd_r fcX12_mostBy (by decide +kernel))
theorem dX12_mostBy_7 : decode cX12_mostBy 7 = .ok (.istore_n 3, 1) := dq_62 (fd_r fcX12_mostBy (by decide +kernel))
theorem dX12_mostBy_8 : decode cX12_mostBy 8 = .ok (.iload_n 3, 1) := dq_29 (fd_r fcX12_mostBy (by decide +kernel))
theorem dX12_mostBy_9 : decode cX12_mostBy 9 = .ok (.bipush 12, 2) := dq_16 (a := 12) (fd_r fcX12_mostBy (by decide +kernel)) rfl
theorem dX12_mostBy_11 : decode cX12_mostBy 11 = .ok (.if_icmp .gt 16, 3) := dq_163 (a := 0) (b := 16) (fd_r fcX12_mostBy (by decide +kernel)) rfl
theorem dX12_mostBy_14 : decode cX12_mostBy 14 = .ok (.aload_n 0, 1) := dq_42 (fd_r fcX12_mostBy (by decide +kernel))
theorem dX12_mostBy_15 : decode cX12_mostBy 15 = .ok (.getfield 306, 3) := dq_180 (a := 1) (b := 50) (fd_r fcX12_mostBy (by decide +kernel)) rfl
theorem dX12_mostBy_18 : decode cX12_mostBy 18 = .ok (.iload_n 3, 1) := dq_29 (fd_r fcX12_mostBy (by decide +kernel))
theorem dX12_mostBy_19 : decode cX12_mostBy 19 = .ok (.iconst 0, 1) := dq_3 (fd_r fcX12_mostBy (by decide +kernel))
theorem dX12_mostBy_20 : decode cX12_mostBy 20 = .ok (.iastore, 1) := dq_79 (fd_r fcX12_mostBy (by decide +kernel))
theorem dX12_mostBy_21 : decode cX12_mostBy 21 = .ok (.iinc 3 1, 3) := dq_132 (a := 3) (b := 1) (fd_r fcX12_mostBy (by decide +kernel)) rfl
theorem dX12_mostBy_24 : decode cX12_mostBy 24 = .ok (.goto (-16), 3) := dq_167 (a := 255) (b := 240) (fd_r fcX12_mostBy (by decide +kernel)) rfl
theorem dX12_mostBy_27 : decode cX12_mostBy 27 = .ok (.iconst 0, 1) := dq_3 (fd_r fcX12_mostBy (by decide +kernel))
theorem dX12_mostBy_28 : decode cX12_mostBy 28 = .ok (.istore_n 3, 1) := dq_62 (fd_r fcX12_mostBy (by decide +kernel))
theorem dX12_mostBy_29 : decode cX12_mostBy 29 = .ok (.iconst 0, 1) := dq_3 (fd_r fcX12_mostBy (by decide +kernel))
theorem dX12_mostBy_30 : decode cX12_mostBy 30 = .ok (.istore 4, 2) := dq_54 (a := 4) (fd_r fcX12_mostBy (by decide +kernel))
theorem dX12_mostBy_32 : decode cX12_mostBy 32 = .ok (.iload 4, 2) := dq_21 (a := 4) (fd_r fcX12_mostBy (by decide +kernel))
theorem dX12_mostBy_34 : decode cX12_mostBy 34 = .ok (.sipush 256, 3) := dq_17 (a := 1) (b := 0) (fd_r fcX12_mostBy (by decide +kernel)) rfl
theorem dX12_mostBy_37 : decode cX12_mostBy 37 = .ok (.if_icmp .ge 72, 3) := dq_162 (a := 0) (b := 72) (fd_r fcX12_mostBy (by decide +kernel)) rfl
theorem dX12_mostBy_40 : decode cX12_mostBy 40 = .ok (.aload_n 0, 1) := dq_42 (fd_r fcX12_mostBy (by decide +kernel))
theorem dX12_mostBy_41 : decode cX12_mostBy 41 = .ok (.getfield 300, 3) := dq_180 (a := 1) (b := 44) (fd_r fcX12_mostBy (by decide +kernel)) rfl
theorem dX12_mostBy_44 : decode cX12_mostBy 44 = .ok (.iload 4, 2) := dq_21 (a := 4) (fd_r fcX12_mostBy (by decide +kernel))
theorem dX12_mostBy_46 : decode cX12_mostBy 46 = .ok (.iaload, 1) := dq_46 (fd_r fcX12_mostBy (by decide +kernel))
theorem dX12_mostBy_47 : decode cX12_mostBy 47 = .ok (.ifCond .ne 6, 3) := dq_154 (a := 0) (b := 6) (fd_r fcX12_mostBy (by decide +kernel)) rfl
theorem dX12_mostBy_50 : decode cX12_mostBy 50 = .ok (.goto 53, 3) := dq_167 (a := 0) (b := 53) (fd_r fcX12_mostBy (by decide +kernel)) rfl
theorem dX12_mostBy_53 : decode cX12_mostBy 53 = .ok (.iload_n 2, 1) := dq_28 (fd_r fcX12_mostBy (by decide +kernel))
theorem dX12_mostBy_54 : decode cX12_mostBy 54 = .ok (.aload_n 0, 1) := dq_42 (fd_r fcX12_mostBy (by decide +kernel))
theorem dX12_mostBy_55 : decode cX12_mostBy 55 = .ok (.getfield 303, 3) := dq_180 (a := 1) (b := 47) (fd_r fcX12_mostBy (by decide +kernel)) rfl
theorem dX12_mostBy_58 : decode cX12_mostBy 58 = .ok (.iload 4, 2) := dq_21 (a := 4) (fd_r fcX12_mostBy (by decide +kernel))
theorem dX12_mostBy_60 : decode cX12_mostBy 60 = .ok (.iaload, 1) := dq_46 (fd_r fcX12_mostBy (by decide +kernel))
theorem dX12_mostBy_61 : decode cX12_mostBy 61 = .ok (.iand, 1) := dq_126 (fd_r fcX12_mostBy (by decide +kernel))
theorem dX12_mostBy_62 : decode cX12_mostBy 62 = .ok (.invokestatic 495, 3) := dq_184 (a := 1) (b := 239) (fd_r fcX12_mostBy (by decide +kernel)) rfl
theorem dX12_mostBy_65 : decode cX12_mostBy 65 = .ok (.iconst 1, 1) := dq_4 (fd_r fcX12_mostBy (by decide +kernel))
theorem dX12_mostBy_66 : decode cX12_mostBy 66 = .ok (.iadd, 1) := dq_96 (fd_r fcX12_mostBy (by decide +kernel))
theorem dX12_mostBy_67 : decode cX12_mostBy 67 = .ok (.istore 5, 2) := dq_54 (a := 5) (fd_r fcX12_mostBy (by decide +kernel))
theorem dX12_mostBy_69 : decode cX12_mostBy 69 = .ok (.aload_n 0, 1) := dq_42 (fd_r fcX12_mostBy (by decide +kernel))
theorem dX12_mostBy_70 : decode cX12_mostBy 70 = .ok (.getfield 306, 3) := dq_180 (a := 1) (b := 50) (fd_r fcX12_mostBy (by decide +kernel)) rfl
theorem dX12_mostBy_73 : decode cX12_mostBy 73 = .ok (.iload 5, 2) := dq_21 (a := 5) (fd_r fcX12_mostBy (by decide +kernel))
theorem dX12_mostBy_75 : decode cX12_mostBy 75 = .ok (.dup2, 1) := dq_92 (fd_r fcX12_mostBy (by decide +kernel))
theorem dX12_mostBy_76 : decode cX12_mostBy 76 = .ok (.iaload, 1) := dq_46 (fd_r fcX12_mostBy (by decide +kernel))
theorem dX12_mostBy_77 : decode cX12_mostBy 77 = .ok (.iconst 1, 1) := dq_4 (fd_r fcX12_mostBy (by decide +kernel))
theorem dX12_mostBy_78 : decode cX12_mostBy 78 = .ok (.iadd, 1) := dq_96 (fd_r fcX12_mostBy (by decide +kernel))
theorem dX12_mostBy_79 : decode cX12_mostBy 79 = .ok (.iastore, 1) := dq_79 (fd_r fcX12_mostBy (by decide +kernel))
theorem dX12_mostBy_80 : decode cX12_mostBy 80 = .ok (.aload_n 0, 1) := dq_42 (fd_r fcX12_mostBy (by decide +kernel))
theorem dX12_mostBy_81 : decode cX12_mostBy 81 = .ok (.getfield 306, 3) := dq_180 (a := 1) (b := 50) (fd_r fcX12_mostBy (by decide +kernel)) rfl
theorem dX12_mostBy_84 : decode cX12_mostBy 84 = .ok (.iload 5, 2) := dq_21 (a := 5) (fd_r fcX12_mostBy (by decide +kernel))
theorem dX12_mostBy_86 : decode cX12_mostBy 86 = .ok (.iaload, 1) := dq_46 (fd_r fcX12_mostBy (by decide +kernel))
theorem dX12_mostBy_87 : decode cX12_mostBy 87 = .ok (.iload_n 3, 1) := dq_29 (fd_r fcX12_mostBy (by decide +kernel))
theorem dX12_mostBy_88 : decode cX12_mostBy 88 = .ok (.if_icmp .le 13, 3) := dq_164 (a := 0) (b := 13) (fd_r fcX12_mostBy (by decide +kernel)) rfl
theorem dX12_mostBy_91 : decode cX12_mostBy 91 = .ok (.aload_n 0, 1) := dq_42 (fd_r fcX12_mostBy (by decide +kernel))
theorem dX12_mostBy_92 : decode cX12_mostBy 92 = .ok (.getfield 306, 3) := dq_180 (a := 1) (b := 50) (fd_r fcX12_mostBy (by decide +kernel)) rfl
theorem dX12_mostBy_95 : decode cX12_mostBy 95 = .ok (.iload 5, 2) := dq_21 (a := 5) (fd_r fcX12_mostBy (by decide +kernel))
theorem dX12_mostBy_97 : decode cX12_mostBy 97 = .ok (.iaload, 1) := dq_46 (fd_r fcX12_mostBy (by decide +kernel))
theorem dX12_mostBy_98 : decode cX12_mostBy 98 = .ok (.goto 4, 3) := dq_167 (a := 0) (b := 4) (fd_r fcX12_mostBy (by decide +kernel)) rfl
theorem dX12_mostBy_101 : decode cX12_mostBy 101 = .ok (.iload_n 3, 1) := dq_29 (fd_r fcX12_mostBy (by decide +kernel))
theorem dX12_mostBy_102 : decode cX12_mostBy 102 = .ok (.istore_n 3, 1) := dq_62 (fd_r fcX12_mostBy (by decide +kernel))
theorem dX12_mostBy_103 : decode cX12_mostBy 103 = .ok (.iinc 4 1, 3) := dq_132 (a := 4) (b := 1) (fd_r fcX12_mostBy (by decide +kernel)) rfl
theorem dX12_mostBy_106 : decode cX12_mostBy 106 = .ok (.goto (-74), 3) := dq_167 (a := 255) (b := 182) (fd_r fcX12_mostBy (by decide +kernel)) rfl
theorem dX12_mostBy_109 : decode cX12_mostBy 109 = .ok (.iload_n 3, 1) := dq_29 (fd_r fcX12_mostBy (by decide +kernel))
theorem dX12_mostBy_110 : decode cX12_mostBy 110 = .ok (.ireturn, 1) := dq_172 (fd_r fcX12_mostBy (by decide +kernel))
theorem dX12_tells_0 : decode cX12_tells 0 = .ok (.aload_n 0, 1) := dq_42 (fd_r fcX12_tells (by decide +kernel))
theorem dX12_tells_1 : decode cX12_tells 1 = .ok (.getfield 146, 3) := dq_180 (a := 0) (b := 146) (fd_r fcX12_tells (by decide +kernel)) rfl
theorem dX12_tells_4 : decode cX12_tells 4 = .ok (.ifCond .eq 12, 3) := dq_153 (a := 0) (b := 12) (fd_r fcX12_tells (by decide +kernel)) rfl
theorem dX12_tells_7 : decode cX12_tells 7 = .ok (.iload_n 1, 1) := dq_27 (fd_r fcX12_tells (by decide +kernel))
theorem dX12_tells_8 : decode cX12_tells 8 = .ok (.iconst 0, 1) := dq_3 (fd_r fcX12_tells (by decide +kernel))
theorem dX12_tells_9 : decode cX12_tells 9 = .ok (.iconst 1, 1) := dq_4 (fd_r fcX12_tells (by decide +kernel))
theorem dX12_tells_10 : decode cX12_tells 10 = .ok (.invokestatic 362, 3) := dq_184 (a := 1) (b := 106) (fd_r fcX12_tells (by decide +kernel)) rfl
theorem dX12_tells_13 : decode cX12_tells 13 = .ok (.ifCond .ne 5, 3) := dq_154 (a := 0) (b := 5) (fd_r fcX12_tells (by decide +kernel)) rfl
theorem dX12_tells_16 : decode cX12_tells 16 = .ok (.iconst (-1), 1) := dq_2 (fd_r fcX12_tells (by decide +kernel))
theorem dX12_tells_17 : decode cX12_tells 17 = .ok (.ireturn, 1) := dq_172 (fd_r fcX12_tells (by decide +kernel))
theorem dX12_tells_18 : decode cX12_tells 18 = .ok (.aload_n 0, 1) := dq_42 (fd_r fcX12_tells (by decide +kernel))
theorem dX12_tells_19 : decode cX12_tells 19 = .ok (.invokevirtual 621, 3) := dq_182 (a := 2) (b := 109) (fd_r fcX12_tells (by decide +kernel)) rfl
theorem dX12_tells_22 : decode cX12_tells 22 = .ok (.istore_n 2, 1) := dq_61 (fd_r fcX12_tells (by decide +kernel))
theorem dX12_tells_23 : decode cX12_tells 23 = .ok (.iconst (-1), 1) := dq_2 (fd_r fcX12_tells (by decide +kernel))
theorem dX12_tells_24 : decode cX12_tells 24 = .ok (.istore_n 3, 1) := dq_62 (fd_r fcX12_tells (by decide +kernel))
theorem dX12_tells_25 : decode cX12_tells 25 = .ok (.ldc_w 624, 3) := dq_19 (a := 2) (b := 112) (fd_r fcX12_tells (by decide +kernel)) rfl
theorem dX12_tells_28 : decode cX12_tells 28 = .ok (.istore 4, 2) := dq_54 (a := 4) (fd_r fcX12_tells (by decide +kernel))
theorem dX12_tells_30 : decode cX12_tells 30 = .ok (.iconst 0, 1) := dq_3 (fd_r fcX12_tells (by decide +kernel))
theorem dX12_tells_31 : decode cX12_tells 31 = .ok (.istore 5, 2) := dq_54 (a := 5) (fd_r fcX12_tells (by decide +kernel))
theorem dX12_tells_33 : decode cX12_tells 33 = .ok (.iload 5, 2) := dq_21 (a := 5) (fd_r fcX12_tells (by decide +kernel))
theorem dX12_tells_35 : decode cX12_tells 35 = .ok (.aload_n 0, 1) := dq_42 (fd_r fcX12_tells (by decide +kernel))
theorem dX12_tells_36 : decode cX12_tells 36 = .ok (.getfield 170, 3) := dq_180 (a := 0) (b := 170) (fd_r fcX12_tells (by decide +kernel)) rfl
theorem dX12_tells_39 : decode cX12_tells 39 = .ok (.if_icmp .ge 46, 3) := dq_162 (a := 0) (b := 46) (fd_r fcX12_tells (by decide +kernel)) rfl
theorem dX12_tells_42 : decode cX12_tells 42 = .ok (.iload 5, 2) := dq_21 (a := 5) (fd_r fcX12_tells (by decide +kernel))
theorem dX12_tells_44 : decode cX12_tells 44 = .ok (.sipush 1000, 3) := dq_17 (a := 3) (b := 232) (fd_r fcX12_tells (by decide +kernel)) rfl
theorem dX12_tells_47 : decode cX12_tells 47 = .ok (.if_icmp .ge 38, 3) := dq_162 (a := 0) (b := 38) (fd_r fcX12_tells (by decide +kernel)) rfl
theorem dX12_tells_50 : decode cX12_tells 50 = .ok (.iload_n 2, 1) := dq_28 (fd_r fcX12_tells (by decide +kernel))
theorem dX12_tells_51 : decode cX12_tells 51 = .ok (.ifCond .le 34, 3) := dq_158 (a := 0) (b := 34) (fd_r fcX12_tells (by decide +kernel)) rfl
theorem dX12_tells_54 : decode cX12_tells 54 = .ok (.aload_n 0, 1) := dq_42 (fd_r fcX12_tells (by decide +kernel))
theorem dX12_tells_55 : decode cX12_tells 55 = .ok (.iload 5, 2) := dq_21 (a := 5) (fd_r fcX12_tells (by decide +kernel))
theorem dX12_tells_57 : decode cX12_tells 57 = .ok (.invokevirtual 625, 3) := dq_182 (a := 2) (b := 113) (fd_r fcX12_tells (by decide +kernel)) rfl
theorem dX12_tells_60 : decode cX12_tells 60 = .ok (.istore 6, 2) := dq_54 (a := 6) (fd_r fcX12_tells (by decide +kernel))
theorem dX12_tells_62 : decode cX12_tells 62 = .ok (.iload 6, 2) := dq_21 (a := 6) (fd_r fcX12_tells (by decide +kernel))
theorem dX12_tells_64 : decode cX12_tells 64 = .ok (.iload 4, 2) := dq_21 (a := 4) (fd_r fcX12_tells (by decide +kernel))
theorem dX12_tells_66 : decode cX12_tells 66 = .ok (.if_icmp .lt 6, 3) := dq_161 (a := 0) (b := 6) (fd_r fcX12_tells (by decide +kernel)) rfl
theorem dX12_tells_69 : decode cX12_tells 69 = .ok (.goto 10, 3) := dq_167 (a := 0) (b := 10) (fd_r fcX12_tells (by decide +kernel)) rfl
theorem dX12_tells_72 : decode cX12_tells 72 = .ok (.iload 6, 2) := dq_21 (a := 6) (fd_r fcX12_tells (by decide +kernel))
theorem dX12_tells_74 : decode cX12_tells 74 = .ok (.istore 4, 2) := dq_54 (a := 4) (fd_r fcX12_tells (by decide +kernel))
theorem dX12_tells_76 : decode cX12_tells 76 = .ok (.iload 5, 2) := dq_21 (a := 5) (fd_r fcX12_tells (by decide +kernel))
theorem dX12_tells_78 : decode cX12_tells 78 = .ok (.istore_n 3, 1) := dq_62 (fd_r fcX12_tells (by decide +kernel))
theorem dX12_tells_79 : decode cX12_tells 79 = .ok (.iinc 5 1, 3) := dq_132 (a := 5) (b := 1) (fd_r fcX12_tells (by decide +kernel)) rfl
theorem dX12_tells_82 : decode cX12_tells 82 = .ok (.goto (-49), 3) := dq_167 (a := 255) (b := 207) (fd_r fcX12_tells (by decide +kernel)) rfl
theorem dX12_tells_85 : decode cX12_tells 85 = .ok (.iload_n 3, 1) := dq_29 (fd_r fcX12_tells (by decide +kernel))
theorem dX12_tells_86 : decode cX12_tells 86 = .ok (.iconst (-1), 1) := dq_2 (fd_r fcX12_tells (by decide +kernel))
theorem dX12_tells_87 : decode cX12_tells 87 = .ok (.if_icmp .eq 7, 3) := dq_159 (a := 0) (b := 7) (fd_r fcX12_tells (by decide +kernel)) rfl
theorem dX12_tells_90 : decode cX12_tells 90 = .ok (.iload_n 1, 1) := dq_27 (fd_r fcX12_tells (by decide +kernel))
theorem dX12_tells_91 : decode cX12_tells 91 = .ok (.ifCond .ne 7, 3) := dq_154 (a := 0) (b := 7) (fd_r fcX12_tells (by decide +kernel)) rfl
theorem dX12_tells_94 : decode cX12_tells 94 = .ok (.iload_n 3, 1) := dq_29 (fd_r fcX12_tells (by decide +kernel))
theorem dX12_tells_95 : decode cX12_tells 95 = .ok (.goto 5, 3) := dq_167 (a := 0) (b := 5) (fd_r fcX12_tells (by decide +kernel)) rfl
theorem dX12_tells_98 : decode cX12_tells 98 = .ok (.iload 4, 2) := dq_21 (a := 4) (fd_r fcX12_tells (by decide +kernel))
theorem dX12_tells_100 : decode cX12_tells 100 = .ok (.ireturn, 1) := dq_172 (fd_r fcX12_tells (by decide +kernel))
theorem dX12_runs_0 : decode cX12_runs 0 = .ok (.aload_n 0, 1) := dq_42 (fd_r fcX12_runs (by decide +kernel))
theorem dX12_runs_1 : decode cX12_runs 1 = .ok (.iconst 0, 1) := dq_3 (fd_r fcX12_runs (by decide +kernel))
theorem dX12_runs_2 : decode cX12_runs 2 = .ok (.aload_n 0, 1) := dq_42 (fd_r fcX12_runs (by decide +kernel))
theorem dX12_runs_3 : decode cX12_runs 3 = .ok (.getfield 182, 3) := dq_180 (a := 0) (b := 182) (fd_r fcX12_runs (by decide +kernel)) rfl
theorem dX12_runs_6 : decode cX12_runs 6 = .ok (.iconst 0, 1) := dq_3 (fd_r fcX12_runs (by decide +kernel))
theorem dX12_runs_7 : decode cX12_runs 7 = .ok (.iaload, 1) := dq_46 (fd_r fcX12_runs (by decide +kernel))
theorem dX12_runs_8 : decode cX12_runs 8 = .ok (.invokevirtual 581, 3) := dq_182 (a := 2) (b := 69) (fd_r fcX12_runs (by decide +kernel)) rfl
theorem dX12_runs_11 : decode cX12_runs 11 = .ok (.aload_n 0, 1) := dq_42 (fd_r fcX12_runs (by decide +kernel))
theorem dX12_runs_12 : decode cX12_runs 12 = .ok (.aload_n 0, 1) := dq_42 (fd_r fcX12_runs (by decide +kernel))
theorem dX12_runs_13 : decode cX12_runs 13 = .ok (.getfield 179, 3) := dq_180 (a := 0) (b := 179) (fd_r fcX12_runs (by decide +kernel)) rfl
theorem dX12_runs_16 : decode cX12_runs 16 = .ok (.iconst 0, 1) := dq_3 (fd_r fcX12_runs (by decide +kernel))
theorem dX12_runs_17 : decode cX12_runs 17 = .ok (.iaload, 1) := dq_46 (fd_r fcX12_runs (by decide +kernel))
theorem dX12_runs_18 : decode cX12_runs 18 = .ok (.invokevirtual 492, 3) := dq_182 (a := 1) (b := 236) (fd_r fcX12_runs (by decide +kernel)) rfl
theorem dX12_runs_21 : decode cX12_runs 21 = .ok (.istore_n 2, 1) := dq_61 (fd_r fcX12_runs (by decide +kernel))
theorem dX12_runs_22 : decode cX12_runs 22 = .ok (.aload_n 0, 1) := dq_42 (fd_r fcX12_runs (by decide +kernel))
theorem dX12_runs_23 : decode cX12_runs 23 = .ok (.iload_n 1, 1) := dq_27 (fd_r fcX12_runs (by decide +kernel))
theorem dX12_runs_24 : decode cX12_runs 24 = .ok (.invokevirtual 484, 3) := dq_182 (a := 1) (b := 228) (fd_r fcX12_runs (by decide +kernel)) rfl
theorem dX12_runs_27 : decode cX12_runs 27 = .ok (.iload_n 2, 1) := dq_28 (fd_r fcX12_runs (by decide +kernel))
theorem dX12_runs_28 : decode cX12_runs 28 = .ok (.iand, 1) := dq_126 (fd_r fcX12_runs (by decide +kernel))
theorem dX12_runs_29 : decode cX12_runs 29 = .ok (.invokestatic 495, 3) := dq_184 (a := 1) (b := 239) (fd_r fcX12_runs (by decide +kernel)) rfl
theorem dX12_runs_32 : decode cX12_runs 32 = .ok (.istore_n 3, 1) := dq_62 (fd_r fcX12_runs (by decide +kernel))
theorem dX12_runs_33 : decode cX12_runs 33 = .ok (.aload_n 0, 1) := dq_42 (fd_r fcX12_runs (by decide +kernel))
theorem dX12_runs_34 : decode cX12_runs 34 = .ok (.iload_n 1, 1) := dq_27 (fd_r fcX12_runs (by decide +kernel))
theorem dX12_runs_35 : decode cX12_runs 35 = .ok (.iload_n 2, 1) := dq_28 (fd_r fcX12_runs (by decide +kernel))
theorem dX12_runs_36 : decode cX12_runs 36 = .ok (.invokevirtual 571, 3) := dq_182 (a := 2) (b := 59) (fd_r fcX12_runs (by decide +kernel)) rfl
theorem dX12_runs_39 : decode cX12_runs 39 = .ok (.istore 4, 2) := dq_54 (a := 4) (fd_r fcX12_runs (by decide +kernel))
theorem dX12_runs_41 : decode cX12_runs 41 = .ok (.aload_n 0, 1) := dq_42 (fd_r fcX12_runs (by decide +kernel))
theorem dX12_runs_42 : decode cX12_runs 42 = .ok (.getfield 185, 3) := dq_180 (a := 0) (b := 185) (fd_r fcX12_runs (by decide +kernel)) rfl
theorem dX12_runs_45 : decode cX12_runs 45 = .ok (.iconst 0, 1) := dq_3 (fd_r fcX12_runs (by decide +kernel))
theorem dX12_runs_46 : decode cX12_runs 46 = .ok (.iaload, 1) := dq_46 (fd_r fcX12_runs (by decide +kernel))
theorem dX12_runs_47 : decode cX12_runs 47 = .ok (.bipush 40, 2) := dq_16 (a := 40) (fd_r fcX12_runs (by decide +kernel)) rfl
theorem dX12_runs_49 : decode cX12_runs 49 = .ok (.if_icmp .ne 45, 3) := dq_160 (a := 0) (b := 45) (fd_r fcX12_runs (by decide +kernel)) rfl
theorem dX12_runs_52 : decode cX12_runs 52 = .ok (.iconst 0, 1) := dq_3 (fd_r fcX12_runs (by decide +kernel))
theorem dX12_runs_53 : decode cX12_runs 53 = .ok (.istore 5, 2) := dq_54 (a := 5) (fd_r fcX12_runs (by decide +kernel))
theorem dX12_runs_55 : decode cX12_runs 55 = .ok (.iload 5, 2) := dq_21 (a := 5) (fd_r fcX12_runs (by decide +kernel))
theorem dX12_runs_57 : decode cX12_runs 57 = .ok (.bipush 117, 2) := dq_16 (a := 117) (fd_r fcX12_runs (by decide +kernel)) rfl
theorem dX12_runs_59 : decode cX12_runs 59 = .ok (.if_icmp .ge 25, 3) := dq_162 (a := 0) (b := 25) (fd_r fcX12_runs (by decide +kernel)) rfl
theorem dX12_runs_62 : decode cX12_runs 62 = .ok (.aload_n 0, 1) := dq_42 (fd_r fcX12_runs (by decide +kernel))
theorem dX12_runs_63 : decode cX12_runs 63 = .ok (.getfield 188, 3) := dq_180 (a := 0) (b := 188) (fd_r fcX12_runs (by decide +kernel)) rfl
theorem dX12_runs_66 : decode cX12_runs 66 = .ok (.iload 5, 2) := dq_21 (a := 5) (fd_r fcX12_runs (by decide +kernel))
theorem dX12_runs_68 : decode cX12_runs 68 = .ok (.aload_n 0, 1) := dq_42 (fd_r fcX12_runs (by decide +kernel))
theorem dX12_runs_69 : decode cX12_runs 69 = .ok (.getfield 188, 3) := dq_180 (a := 0) (b := 188) (fd_r fcX12_runs (by decide +kernel)) rfl
theorem dX12_runs_72 : decode cX12_runs 72 = .ok (.iload 5, 2) := dq_21 (a := 5) (fd_r fcX12_runs (by decide +kernel))
theorem dX12_runs_74 : decode cX12_runs 74 = .ok (.iconst 3, 1) := dq_6 (fd_r fcX12_runs (by decide +kernel))
theorem dX12_runs_75 : decode cX12_runs 75 = .ok (.iadd, 1) := dq_96 (fd_r fcX12_runs (by decide +kernel))
theorem dX12_runs_76 : decode cX12_runs 76 = .ok (.iaload, 1) := dq_46 (fd_r fcX12_runs (by decide +kernel))
theorem dX12_runs_77 : decode cX12_runs 77 = .ok (.iastore, 1) := dq_79 (fd_r fcX12_runs (by decide +kernel))
theorem dX12_runs_78 : decode cX12_runs 78 = .ok (.iinc 5 1, 3) := dq_132 (a := 5) (b := 1) (fd_r fcX12_runs (by decide +kernel)) rfl
theorem dX12_runs_81 : decode cX12_runs 81 = .ok (.goto (-26), 3) := dq_167 (a := 255) (b := 230) (fd_r fcX12_runs (by decide +kernel)) rfl
theorem dX12_runs_84 : decode cX12_runs 84 = .ok (.aload_n 0, 1) := dq_42 (fd_r fcX12_runs (by decide +kernel))
theorem dX12_runs_85 : decode cX12_runs 85 = .ok (.getfield 185, 3) := dq_180 (a := 0) (b := 185) (fd_r fcX12_runs (by decide +kernel)) rfl
theorem dX12_runs_88 : decode cX12_runs 88 = .ok (.iconst 0, 1) := dq_3 (fd_r fcX12_runs (by decide +kernel))
theorem dX12_runs_89 : decode cX12_runs 89 = .ok (.dup2, 1) := dq_92 (fd_r fcX12_runs (by decide +kernel))
theorem dX12_runs_90 : decode cX12_runs 90 = .ok (.iaload, 1) := dq_46 (fd_r fcX12_runs (by decide +kernel))
theorem dX12_runs_91 : decode cX12_runs 91 = .ok (.iconst 1, 1) := dq_4 (fd_r fcX12_runs (by decide +kernel))
theorem dX12_runs_92 : decode cX12_runs 92 = .ok (.isub, 1) := dq_100 (fd_r fcX12_runs (by decide +kernel))
theorem dX12_runs_93 : decode cX12_runs 93 = .ok (.iastore, 1) := dq_79 (fd_r fcX12_runs (by decide +kernel))
theorem dX12_runs_94 : decode cX12_runs 94 = .ok (.iconst 3, 1) := dq_6 (fd_r fcX12_runs (by decide +kernel))
theorem dX12_runs_95 : decode cX12_runs 95 = .ok (.aload_n 0, 1) := dq_42 (fd_r fcX12_runs (by decide +kernel))
theorem dX12_runs_96 : decode cX12_runs 96 = .ok (.getfield 185, 3) := dq_180 (a := 0) (b := 185) (fd_r fcX12_runs (by decide +kernel)) rfl
theorem dX12_runs_99 : decode cX12_runs 99 = .ok (.iconst 0, 1) := dq_3 (fd_r fcX12_runs (by decide +kernel))
theorem dX12_runs_100 : decode cX12_runs 100 = .ok (.iaload, 1) := dq_46 (fd_r fcX12_runs (by decide +kernel))
theorem dX12_runs_101 : decode cX12_runs 101 = .ok (.imul, 1) := dq_104 (fd_r fcX12_runs (by decide +kernel))
theorem dX12_runs_102 : decode cX12_runs 102 = .ok (.istore 5, 2) := dq_54 (a := 5) (fd_r fcX12_runs (by decide +kernel))
theorem dX12_runs_104 : decode cX12_runs 104 = .ok (.aload_n 0, 1) := dq_42 (fd_r fcX12_runs (by decide +kernel))
theorem dX12_runs_105 : decode cX12_runs 105 = .ok (.getfield 188, 3) := dq_180 (a := 0) (b := 188) (fd_r fcX12_runs (by decide +kernel)) rfl
theorem dX12_runs_108 : decode cX12_runs 108 = .ok (.iload 5, 2) := dq_21 (a := 5) (fd_r fcX12_runs (by decide +kernel))
theorem dX12_runs_110 : decode cX12_runs 110 = .ok (.iload_n 1, 1) := dq_27 (fd_r fcX12_runs (by decide +kernel))
theorem dX12_runs_111 : decode cX12_runs 111 = .ok (.iastore, 1) := dq_79 (fd_r fcX12_runs (by decide +kernel))
theorem dX12_runs_112 : decode cX12_runs 112 = .ok (.aload_n 0, 1) := dq_42 (fd_r fcX12_runs (by decide +kernel))
theorem dX12_runs_113 : decode cX12_runs 113 = .ok (.getfield 188, 3) := dq_180 (a := 0) (b := 188) (fd_r fcX12_runs (by decide +kernel)) rfl
theorem dX12_runs_116 : decode cX12_runs 116 = .ok (.iload 5, 2) := dq_21 (a := 5) (fd_r fcX12_runs (by decide +kernel))
theorem dX12_runs_118 : decode cX12_runs 118 = .ok (.iconst 1, 1) := dq_4 (fd_r fcX12_runs (by decide +kernel))
theorem dX12_runs_119 : decode cX12_runs 119 = .ok (.iadd, 1) := dq_96 (fd_r fcX12_runs (by decide +kernel))
theorem dX12_runs_120 : decode cX12_runs 120 = .ok (.iload_n 3, 1) := dq_29 (fd_r fcX12_runs (by decide +kernel))
theorem dX12_runs_121 : decode cX12_runs 121 = .ok (.iconst (-1), 1) := dq_2 (fd_r fcX12_runs (by decide +kernel))
theorem dX12_runs_122 : decode cX12_runs 122 = .ok (.if_icmp .ne 7, 3) := dq_160 (a := 0) (b := 7) (fd_r fcX12_runs (by decide +kernel)) rfl
theorem dX12_runs_125 : decode cX12_runs 125 = .ok (.iconst (-1), 1) := dq_2 (fd_r fcX12_runs (by decide +kernel))
theorem dX12_runs_126 : decode cX12_runs 126 = .ok (.goto 9, 3) := dq_167 (a := 0) (b := 9) (fd_r fcX12_runs (by decide +kernel)) rfl
theorem dX12_runs_129 : decode cX12_runs 129 = .ok (.aload_n 0, 1) := dq_42 (fd_r fcX12_runs (by decide +kernel))
theorem dX12_runs_130 : decode cX12_runs 130 = .ok (.getfield 176, 3) := dq_180 (a := 0) (b := 176) (fd_r fcX12_runs (by decide +kernel)) rfl
theorem dX12_runs_133 : decode cX12_runs 133 = .ok (.iload_n 3, 1) := dq_29 (fd_r fcX12_runs (by decide +kernel))
theorem dX12_runs_134 : decode cX12_runs 134 = .ok (.iaload, 1) := dq_46 (fd_r fcX12_runs (by decide +kernel))
theorem dX12_runs_135 : decode cX12_runs 135 = .ok (.iastore, 1) := dq_79 (fd_r fcX12_runs (by decide +kernel))
theorem dX12_runs_136 : decode cX12_runs 136 = .ok (.aload_n 0, 1) := dq_42 (fd_r fcX12_runs (by decide +kernel))
theorem dX12_runs_137 : decode cX12_runs 137 = .ok (.getfield 188, 3) := dq_180 (a := 0) (b := 188) (fd_r fcX12_runs (by decide +kernel)) rfl
theorem dX12_runs_140 : decode cX12_runs 140 = .ok (.iload 5, 2) := dq_21 (a := 5) (fd_r fcX12_runs (by decide +kernel))
theorem dX12_runs_142 : decode cX12_runs 142 = .ok (.iconst 2, 1) := dq_5 (fd_r fcX12_runs (by decide +kernel))
theorem dX12_runs_143 : decode cX12_runs 143 = .ok (.iadd, 1) := dq_96 (fd_r fcX12_runs (by decide +kernel))
theorem dX12_runs_144 : decode cX12_runs 144 = .ok (.iload 4, 2) := dq_21 (a := 4) (fd_r fcX12_runs (by decide +kernel))
theorem dX12_runs_146 : decode cX12_runs 146 = .ok (.iastore, 1) := dq_79 (fd_r fcX12_runs (by decide +kernel))
theorem dX12_runs_147 : decode cX12_runs 147 = .ok (.aload_n 0, 1) := dq_42 (fd_r fcX12_runs (by decide +kernel))
theorem dX12_runs_148 : decode cX12_runs 148 = .ok (.getfield 185, 3) := dq_180 (a := 0) (b := 185) (fd_r fcX12_runs (by decide +kernel)) rfl
theorem dX12_runs_151 : decode cX12_runs 151 = .ok (.iconst 0, 1) := dq_3 (fd_r fcX12_runs (by decide +kernel))
theorem dX12_runs_152 : decode cX12_runs 152 = .ok (.dup2, 1) := dq_92 (fd_r fcX12_runs (by decide +kernel))
theorem dX12_runs_153 : decode cX12_runs 153 = .ok (.iaload, 1) := dq_46 (fd_r fcX12_runs (by decide +kernel))
theorem dX12_runs_154 : decode cX12_runs 154 = .ok (.iconst 1, 1) := dq_4 (fd_r fcX12_runs (by decide +kernel))
theorem dX12_runs_155 : decode cX12_runs 155 = .ok (.iadd, 1) := dq_96 (fd_r fcX12_runs (by decide +kernel))
theorem dX12_runs_156 : decode cX12_runs 156 = .ok (.iastore, 1) := dq_79 (fd_r fcX12_runs (by decide +kernel))
theorem dX12_runs_157 : decode cX12_runs 157 = .ok (.iload_n 3, 1) := dq_29 (fd_r fcX12_runs (by decide +kernel))
theorem dX12_runs_158 : decode cX12_runs 158 = .ok (.ireturn, 1) := dq_172 (fd_r fcX12_runs (by decide +kernel))
theorem dX12_run_0 : decode cX12_run 0 = .ok (.aload_n 0, 1) := dq_42 (fd_r fcX12_run (by decide +kernel))
theorem dX12_run_1 : decode cX12_run 1 = .ok (.iload_n 1, 1) := dq_27 (fd_r fcX12_run (by decide +kernel))
theorem dX12_run_2 : decode cX12_run 2 = .ok (.invokevirtual 516, 3) := dq_182 (a := 2) (b := 4) (fd_r fcX12_run (by decide +kernel)) rfl
theorem dX12_run_5 : decode cX12_run 5 = .ok (.ifCond .ne 9, 3) := dq_154 (a := 0) (b := 9) (fd_r fcX12_run (by decide +kernel)) rfl
theorem dX12_run_8 : decode cX12_run 8 = .ok (.aload_n 0, 1) := dq_42 (fd_r fcX12_run (by decide +kernel))
theorem dX12_run_9 : decode cX12_run 9 = .ok (.iconst 2, 1) := dq_5 (fd_r fcX12_run (by decide +kernel))
theorem dX12_run_10 : decode cX12_run 10 = .ok (.invokevirtual 312, 3) := dq_182 (a := 1) (b := 56) (fd_r fcX12_run (by decide +kernel)) rfl
theorem dX12_run_13 : decode cX12_run 13 = .ok (.ireturn, 1) := dq_172 (fd_r fcX12_run (by decide +kernel))
theorem dX12_run_14 : decode cX12_run 14 = .ok (.aload_n 0, 1) := dq_42 (fd_r fcX12_run (by decide +kernel))
theorem dX12_run_15 : decode cX12_run 15 = .ok (.invokevirtual 628, 3) := dq_182 (a := 2) (b := 116) (fd_r fcX12_run (by decide +kernel)) rfl
theorem dX12_run_18 : decode cX12_run 18 = .ok (.aload_n 0, 1) := dq_42 (fd_r fcX12_run (by decide +kernel))
theorem dX12_run_19 : decode cX12_run 19 = .ok (.iload_n 1, 1) := dq_27 (fd_r fcX12_run (by decide +kernel))
theorem dX12_run_20 : decode cX12_run 20 = .ok (.invokevirtual 631, 3) := dq_182 (a := 2) (b := 119) (fd_r fcX12_run (by decide +kernel)) rfl
theorem dX12_run_23 : decode cX12_run 23 = .ok (.ireturn, 1) := dq_172 (fd_r fcX12_run (by decide +kernel))
theorem dX12_draw_0 : decode cX12_draw 0 = .ok (.aload_n 0, 1) := dq_42 (fd_r fcX12_draw (by decide +kernel))
theorem dX12_draw_1 : decode cX12_draw 1 = .ok (.ldc2_w 634, 3) := dq_20 (a := 2) (b := 122) (fd_r fcX12_draw (by decide +kernel)) rfl
theorem dX12_draw_4 : decode cX12_draw 4 = .ok (.aload_n 0, 1) := dq_42 (fd_r fcX12_draw (by decide +kernel))
theorem dX12_draw_5 : decode cX12_draw 5 = .ok (.getfield 197, 3) := dq_180 (a := 0) (b := 197) (fd_r fcX12_draw (by decide +kernel)) rfl
theorem dX12_draw_8 : decode cX12_draw 8 = .ok (.lmul, 1) := dq_105 (fd_r fcX12_draw (by decide +kernel))
theorem dX12_draw_9 : decode cX12_draw 9 = .ok (.ldc2_w 636, 3) := dq_20 (a := 2) (b := 124) (fd_r fcX12_draw (by decide +kernel)) rfl
theorem dX12_draw_12 : decode cX12_draw 12 = .ok (.ladd, 1) := dq_97 (fd_r fcX12_draw (by decide +kernel))
theorem dX12_draw_13 : decode cX12_draw 13 = .ok (.ldc2_w 638, 3) := dq_20 (a := 2) (b := 126) (fd_r fcX12_draw (by decide +kernel)) rfl
theorem dX12_draw_16 : decode cX12_draw 16 = .ok (.lrem, 1) := dq_113 (fd_r fcX12_draw (by decide +kernel))
theorem dX12_draw_17 : decode cX12_draw 17 = .ok (.putfield 197, 3) := dq_181 (a := 0) (b := 197) (fd_r fcX12_draw (by decide +kernel)) rfl
theorem dX12_draw_20 : decode cX12_draw 20 = .ok (.aload_n 0, 1) := dq_42 (fd_r fcX12_draw (by decide +kernel))
theorem dX12_draw_21 : decode cX12_draw 21 = .ok (.getfield 197, 3) := dq_180 (a := 0) (b := 197) (fd_r fcX12_draw (by decide +kernel)) rfl
theorem dX12_draw_24 : decode cX12_draw 24 = .ok (.ldc2_w 640, 3) := dq_20 (a := 2) (b := 128) (fd_r fcX12_draw (by decide +kernel)) rfl
theorem dX12_draw_27 : decode cX12_draw 27 = .ok (.ldiv, 1) := dq_109 (fd_r fcX12_draw (by decide +kernel))
theorem dX12_draw_28 : decode cX12_draw 28 = .ok (.iload_n 1, 1) := dq_27 (fd_r fcX12_draw (by decide +kernel))
theorem dX12_draw_29 : decode cX12_draw 29 = .ok (.i2l, 1) := dq_133 (fd_r fcX12_draw (by decide +kernel))
theorem dX12_draw_30 : decode cX12_draw 30 = .ok (.lrem, 1) := dq_113 (fd_r fcX12_draw (by decide +kernel))
theorem dX12_draw_31 : decode cX12_draw 31 = .ok (.l2i, 1) := dq_136 (fd_r fcX12_draw (by decide +kernel))
theorem dX12_draw_32 : decode cX12_draw 32 = .ok (.ireturn, 1) := dq_172 (fd_r fcX12_draw (by decide +kernel))
theorem dX12_chance_0 : decode cX12_chance 0 = .ok (.aload_n 0, 1) := dq_42 (fd_r fcX12_chance (by decide +kernel))
theorem dX12_chance_1 : decode cX12_chance 1 = .ok (.getfield 146, 3) := dq_180 (a := 0) (b := 146) (fd_r fcX12_chance (by decide +kernel)) rfl
theorem dX12_chance_4 : decode cX12_chance 4 = .ok (.ifCond .eq 13, 3) := dq_153 (a := 0) (b := 13) (fd_r fcX12_chance (by decide +kernel)) rfl
theorem dX12_chance_7 : decode cX12_chance 7 = .ok (.iload_n 1, 1) := dq_27 (fd_r fcX12_chance (by decide +kernel))
theorem dX12_chance_8 : decode cX12_chance 8 = .ok (.iconst 1, 1) := dq_4 (fd_r fcX12_chance (by decide +kernel))
theorem dX12_chance_9 : decode cX12_chance 9 = .ok (.bipush 40, 2) := dq_16 (a := 40) (fd_r fcX12_chance (by decide +kernel)) rfl
theorem dX12_chance_11 : decode cX12_chance 11 = .ok (.invokestatic 362, 3) := dq_184 (a := 1) (b := 106) (fd_r fcX12_chance (by decide +kernel)) rfl
theorem dX12_chance_14 : decode cX12_chance 14 = .ok (.ifCond .ne 9, 3) := dq_154 (a := 0) (b := 9) (fd_r fcX12_chance (by decide +kernel)) rfl
theorem dX12_chance_17 : decode cX12_chance 17 = .ok (.aload_n 0, 1) := dq_42 (fd_r fcX12_chance (by decide +kernel))
theorem dX12_chance_18 : decode cX12_chance 18 = .ok (.iconst 2, 1) := dq_5 (fd_r fcX12_chance (by decide +kernel))
theorem dX12_chance_19 : decode cX12_chance 19 = .ok (.invokevirtual 312, 3) := dq_182 (a := 1) (b := 56) (fd_r fcX12_chance (by decide +kernel)) rfl
theorem dX12_chance_22 : decode cX12_chance 22 = .ok (.ireturn, 1) := dq_172 (fd_r fcX12_chance (by decide +kernel))
theorem dX12_chance_23 : decode cX12_chance 23 = .ok (.aload_n 0, 1) := dq_42 (fd_r fcX12_chance (by decide +kernel))
theorem dX12_chance_24 : decode cX12_chance 24 = .ok (.invokevirtual 628, 3) := dq_182 (a := 2) (b := 116) (fd_r fcX12_chance (by decide +kernel)) rfl
theorem dX12_chance_27 : decode cX12_chance 27 = .ok (.iconst 0, 1) := dq_3 (fd_r fcX12_chance (by decide +kernel))
theorem dX12_chance_28 : decode cX12_chance 28 = .ok (.istore_n 2, 1) := dq_61 (fd_r fcX12_chance (by decide +kernel))
theorem dX12_chance_29 : decode cX12_chance 29 = .ok (.iconst 0, 1) := dq_3 (fd_r fcX12_chance (by decide +kernel))
theorem dX12_chance_30 : decode cX12_chance 30 = .ok (.istore_n 3, 1) := dq_62 (fd_r fcX12_chance (by decide +kernel))
theorem dX12_chance_31 : decode cX12_chance 31 = .ok (.iload_n 3, 1) := dq_29 (fd_r fcX12_chance (by decide +kernel))
theorem dX12_chance_32 : decode cX12_chance 32 = .ok (.iload_n 1, 1) := dq_27 (fd_r fcX12_chance (by decide +kernel))
theorem dX12_chance_33 : decode cX12_chance 33 = .ok (.if_icmp .ge 33, 3) := dq_162 (a := 0) (b := 33) (fd_r fcX12_chance (by decide +kernel)) rfl
theorem dX12_chance_36 : decode cX12_chance 36 = .ok (.iload_n 2, 1) := dq_28 (fd_r fcX12_chance (by decide +kernel))
theorem dX12_chance_37 : decode cX12_chance 37 = .ok (.aload_n 0, 1) := dq_42 (fd_r fcX12_chance (by decide +kernel))
theorem dX12_chance_38 : decode cX12_chance 38 = .ok (.aload_n 0, 1) := dq_42 (fd_r fcX12_chance (by decide +kernel))
theorem dX12_chance_39 : decode cX12_chance 39 = .ok (.aload_n 0, 1) := dq_42 (fd_r fcX12_chance (by decide +kernel))
theorem dX12_chance_40 : decode cX12_chance 40 = .ok (.getfield 170, 3) := dq_180 (a := 0) (b := 170) (fd_r fcX12_chance (by decide +kernel)) rfl
theorem dX12_chance_43 : decode cX12_chance 43 = .ok (.invokevirtual 642, 3) := dq_182 (a := 2) (b := 130) (fd_r fcX12_chance (by decide +kernel)) rfl
theorem dX12_chance_46 : decode cX12_chance 46 = .ok (.invokevirtual 631, 3) := dq_182 (a := 2) (b := 119) (fd_r fcX12_chance (by decide +kernel)) rfl
theorem dX12_chance_49 : decode cX12_chance 49 = .ok (.iconst (-1), 1) := dq_2 (fd_r fcX12_chance (by decide +kernel))
theorem dX12_chance_50 : decode cX12_chance 50 = .ok (.if_icmp .ne 7, 3) := dq_160 (a := 0) (b := 7) (fd_r fcX12_chance (by decide +kernel)) rfl
theorem dX12_chance_53 : decode cX12_chance 53 = .ok (.iconst 1, 1) := dq_4 (fd_r fcX12_chance (by decide +kernel))
theorem dX12_chance_54 : decode cX12_chance 54 = .ok (.goto 4, 3) := dq_167 (a := 0) (b := 4) (fd_r fcX12_chance (by decide +kernel)) rfl
theorem dX12_chance_57 : decode cX12_chance 57 = .ok (.iconst 0, 1) := dq_3 (fd_r fcX12_chance (by decide +kernel))
theorem dX12_chance_58 : decode cX12_chance 58 = .ok (.iadd, 1) := dq_96 (fd_r fcX12_chance (by decide +kernel))
theorem dX12_chance_59 : decode cX12_chance 59 = .ok (.istore_n 2, 1) := dq_61 (fd_r fcX12_chance (by decide +kernel))
theorem dX12_chance_60 : decode cX12_chance 60 = .ok (.iinc 3 1, 3) := dq_132 (a := 3) (b := 1) (fd_r fcX12_chance (by decide +kernel)) rfl
theorem dX12_chance_63 : decode cX12_chance 63 = .ok (.goto (-32), 3) := dq_167 (a := 255) (b := 224) (fd_r fcX12_chance (by decide +kernel)) rfl
theorem dX12_chance_66 : decode cX12_chance 66 = .ok (.iload_n 2, 1) := dq_28 (fd_r fcX12_chance (by decide +kernel))
theorem dX12_chance_67 : decode cX12_chance 67 = .ok (.ireturn, 1) := dq_172 (fd_r fcX12_chance (by decide +kernel))
theorem dX12_swap_0 : decode cX12_swap 0 = .ok (.aload_n 0, 1) := dq_42 (fd_r fcX12_swap (by decide +kernel))
theorem dX12_swap_1 : decode cX12_swap 1 = .ok (.iload_n 1, 1) := dq_27 (fd_r fcX12_swap (by decide +kernel))
theorem dX12_swap_2 : decode cX12_swap 2 = .ok (.invokevirtual 498, 3) := dq_182 (a := 1) (b := 242) (fd_r fcX12_swap (by decide +kernel)) rfl
theorem dX12_swap_5 : decode cX12_swap 5 = .ok (.ifCond .eq 16, 3) := dq_153 (a := 0) (b := 16) (fd_r fcX12_swap (by decide +kernel)) rfl
theorem dX12_swap_8 : decode cX12_swap 8 = .ok (.aload_n 0, 1) := dq_42 (fd_r fcX12_swap (by decide +kernel))
theorem dX12_swap_9 : decode cX12_swap 9 = .ok (.iload_n 2, 1) := dq_28 (fd_r fcX12_swap (by decide +kernel))
theorem dX12_swap_10 : decode cX12_swap 10 = .ok (.invokevirtual 498, 3) := dq_182 (a := 1) (b := 242) (fd_r fcX12_swap (by decide +kernel)) rfl
theorem dX12_swap_13 : decode cX12_swap 13 = .ok (.ifCond .eq 8, 3) := dq_153 (a := 0) (b := 8) (fd_r fcX12_swap (by decide +kernel)) rfl
theorem dX12_swap_16 : decode cX12_swap 16 = .ok (.iload_n 1, 1) := dq_27 (fd_r fcX12_swap (by decide +kernel))
theorem dX12_swap_17 : decode cX12_swap 17 = .ok (.iload_n 2, 1) := dq_28 (fd_r fcX12_swap (by decide +kernel))
theorem dX12_swap_18 : decode cX12_swap 18 = .ok (.if_icmp .ne 17, 3) := dq_160 (a := 0) (b := 17) (fd_r fcX12_swap (by decide +kernel)) rfl
theorem dX12_swap_21 : decode cX12_swap 21 = .ok (.aload_n 0, 1) := dq_42 (fd_r fcX12_swap (by decide +kernel))
theorem dX12_swap_22 : decode cX12_swap 22 = .ok (.iconst 3, 1) := dq_6 (fd_r fcX12_swap (by decide +kernel))
theorem dX12_swap_23 : decode cX12_swap 23 = .ok (.invokevirtual 312, 3) := dq_182 (a := 1) (b := 56) (fd_r fcX12_swap (by decide +kernel)) rfl
end
section
theorem dX12_swap_26 : decode cX12_swap 26 = .ok (.ifCond .lt 7, 3) := dq_155 (a := 0) (b := 7) (fd_r fcX12_swap (by decide +kernel)) rfl
theorem dX12_swap_33 : decode cX12_swap 33 = .ok (.iconst 0, 1) := dq_3 (fd_r fcX12_swap (by decide +kernel))
theorem dX12_swap_34 : decode cX12_swap 34 = .ok (.ireturn, 1) := dq_172 (fd_r fcX12_swap (by decide +kernel))
theorem dX12_swap_35 : decode cX12_swap 35 = .ok (.aload_n 0, 1) := dq_42 (fd_r fcX12_swap (by decide +kernel))
theorem dX12_swap_36 : decode cX12_swap 36 = .ok (.invokevirtual 628, 3) := dq_182 (a := 2) (b := 116) (fd_r fcX12_swap (by decide +kernel)) rfl
theorem dX12_swap_39 : decode cX12_swap 39 = .ok (.aload_n 0, 1) := dq_42 (fd_r fcX12_swap (by decide +kernel))
theorem dX12_swap_40 : decode cX12_swap 40 = .ok (.iconst 0, 1) := dq_3 (fd_r fcX12_swap (by decide +kernel))
theorem dX12_swap_41 : decode cX12_swap 41 = .ok (.iload_n 1, 1) := dq_27 (fd_r fcX12_swap (by decide +kernel))
theorem dX12_swap_42 : decode cX12_swap 42 = .ok (.iload_n 2, 1) := dq_28 (fd_r fcX12_swap (by decide +kernel))
theorem dX12_swap_43 : decode cX12_swap 43 = .ok (.invokevirtual 618, 3) := dq_182 (a := 2) (b := 106) (fd_r fcX12_swap (by decide +kernel)) rfl
theorem dX12_swap_46 : decode cX12_swap 46 = .ok (.iconst 1, 1) := dq_4 (fd_r fcX12_swap (by decide +kernel))
theorem dX12_swap_47 : decode cX12_swap 47 = .ok (.ireturn, 1) := dq_172 (fd_r fcX12_swap (by decide +kernel))
theorem dX12_drop_0 : decode cX12_drop 0 = .ok (.aload_n 0, 1) := dq_42 (fd_r fcX12_drop (by decide +kernel))
theorem dX12_drop_1 : decode cX12_drop 1 = .ok (.iload_n 1, 1) := dq_27 (fd_r fcX12_drop (by decide +kernel))
theorem dX12_drop_2 : decode cX12_drop 2 = .ok (.invokevirtual 498, 3) := dq_182 (a := 1) (b := 242) (fd_r fcX12_drop (by decide +kernel)) rfl
theorem dX12_drop_5 : decode cX12_drop 5 = .ok (.ifCond .ne 17, 3) := dq_154 (a := 0) (b := 17) (fd_r fcX12_drop (by decide +kernel)) rfl
theorem dX12_drop_8 : decode cX12_drop 8 = .ok (.aload_n 0, 1) := dq_42 (fd_r fcX12_drop (by decide +kernel))
theorem dX12_drop_9 : decode cX12_drop 9 = .ok (.iconst 3, 1) := dq_6 (fd_r fcX12_drop (by decide +kernel))
theorem dX12_drop_10 : decode cX12_drop 10 = .ok (.invokevirtual 312, 3) := dq_182 (a := 1) (b := 56) (fd_r fcX12_drop (by decide +kernel)) rfl
theorem dX12_drop_13 : decode cX12_drop 13 = .ok (.ifCond .lt 7, 3) := dq_155 (a := 0) (b := 7) (fd_r fcX12_drop (by decide +kernel)) rfl
theorem dX12_drop_20 : decode cX12_drop 20 = .ok (.iconst 0, 1) := dq_3 (fd_r fcX12_drop (by decide +kernel))
theorem dX12_drop_21 : decode cX12_drop 21 = .ok (.ireturn, 1) := dq_172 (fd_r fcX12_drop (by decide +kernel))
theorem dX12_drop_22 : decode cX12_drop 22 = .ok (.aload_n 0, 1) := dq_42 (fd_r fcX12_drop (by decide +kernel))
theorem dX12_drop_23 : decode cX12_drop 23 = .ok (.invokevirtual 628, 3) := dq_182 (a := 2) (b := 116) (fd_r fcX12_drop (by decide +kernel)) rfl
theorem dX12_drop_26 : decode cX12_drop 26 = .ok (.iload_n 1, 1) := dq_27 (fd_r fcX12_drop (by decide +kernel))
theorem dX12_drop_27 : decode cX12_drop 27 = .ok (.istore_n 2, 1) := dq_61 (fd_r fcX12_drop (by decide +kernel))
theorem dX12_drop_28 : decode cX12_drop 28 = .ok (.iload_n 2, 1) := dq_28 (fd_r fcX12_drop (by decide +kernel))
theorem dX12_drop_29 : decode cX12_drop 29 = .ok (.iconst 1, 1) := dq_4 (fd_r fcX12_drop (by decide +kernel))
theorem dX12_drop_30 : decode cX12_drop 30 = .ok (.iadd, 1) := dq_96 (fd_r fcX12_drop (by decide +kernel))
theorem dX12_drop_31 : decode cX12_drop 31 = .ok (.aload_n 0, 1) := dq_42 (fd_r fcX12_drop (by decide +kernel))
theorem dX12_drop_32 : decode cX12_drop 32 = .ok (.getfield 173, 3) := dq_180 (a := 0) (b := 173) (fd_r fcX12_drop (by decide +kernel)) rfl
theorem dX12_drop_35 : decode cX12_drop 35 = .ok (.iconst 0, 1) := dq_3 (fd_r fcX12_drop (by decide +kernel))
theorem dX12_drop_36 : decode cX12_drop 36 = .ok (.iaload, 1) := dq_46 (fd_r fcX12_drop (by decide +kernel))
theorem dX12_drop_37 : decode cX12_drop 37 = .ok (.if_icmp .ge 23, 3) := dq_162 (a := 0) (b := 23) (fd_r fcX12_drop (by decide +kernel)) rfl
theorem dX12_drop_40 : decode cX12_drop 40 = .ok (.aload_n 0, 1) := dq_42 (fd_r fcX12_drop (by decide +kernel))
theorem dX12_drop_41 : decode cX12_drop 41 = .ok (.getfield 176, 3) := dq_180 (a := 0) (b := 176) (fd_r fcX12_drop (by decide +kernel)) rfl
theorem dX12_drop_44 : decode cX12_drop 44 = .ok (.iload_n 2, 1) := dq_28 (fd_r fcX12_drop (by decide +kernel))
theorem dX12_drop_45 : decode cX12_drop 45 = .ok (.aload_n 0, 1) := dq_42 (fd_r fcX12_drop (by decide +kernel))
theorem dX12_drop_46 : decode cX12_drop 46 = .ok (.getfield 176, 3) := dq_180 (a := 0) (b := 176) (fd_r fcX12_drop (by decide +kernel)) rfl
theorem dX12_drop_49 : decode cX12_drop 49 = .ok (.iload_n 2, 1) := dq_28 (fd_r fcX12_drop (by decide +kernel))
theorem dX12_drop_50 : decode cX12_drop 50 = .ok (.iconst 1, 1) := dq_4 (fd_r fcX12_drop (by decide +kernel))
theorem dX12_drop_51 : decode cX12_drop 51 = .ok (.iadd, 1) := dq_96 (fd_r fcX12_drop (by decide +kernel))
theorem dX12_drop_52 : decode cX12_drop 52 = .ok (.iaload, 1) := dq_46 (fd_r fcX12_drop (by decide +kernel))
theorem dX12_drop_53 : decode cX12_drop 53 = .ok (.iastore, 1) := dq_79 (fd_r fcX12_drop (by decide +kernel))
theorem dX12_drop_54 : decode cX12_drop 54 = .ok (.iinc 2 1, 3) := dq_132 (a := 2) (b := 1) (fd_r fcX12_drop (by decide +kernel)) rfl
theorem dX12_drop_57 : decode cX12_drop 57 = .ok (.goto (-29), 3) := dq_167 (a := 255) (b := 227) (fd_r fcX12_drop (by decide +kernel)) rfl
theorem dX12_drop_60 : decode cX12_drop 60 = .ok (.aload_n 0, 1) := dq_42 (fd_r fcX12_drop (by decide +kernel))
theorem dX12_drop_61 : decode cX12_drop 61 = .ok (.getfield 173, 3) := dq_180 (a := 0) (b := 173) (fd_r fcX12_drop (by decide +kernel)) rfl
theorem dX12_drop_64 : decode cX12_drop 64 = .ok (.iconst 0, 1) := dq_3 (fd_r fcX12_drop (by decide +kernel))
theorem dX12_drop_65 : decode cX12_drop 65 = .ok (.dup2, 1) := dq_92 (fd_r fcX12_drop (by decide +kernel))
theorem dX12_drop_66 : decode cX12_drop 66 = .ok (.iaload, 1) := dq_46 (fd_r fcX12_drop (by decide +kernel))
theorem dX12_drop_67 : decode cX12_drop 67 = .ok (.iconst 1, 1) := dq_4 (fd_r fcX12_drop (by decide +kernel))
theorem dX12_drop_68 : decode cX12_drop 68 = .ok (.isub, 1) := dq_100 (fd_r fcX12_drop (by decide +kernel))
theorem dX12_drop_69 : decode cX12_drop 69 = .ok (.iastore, 1) := dq_79 (fd_r fcX12_drop (by decide +kernel))
theorem dX12_drop_70 : decode cX12_drop 70 = .ok (.iconst 1, 1) := dq_4 (fd_r fcX12_drop (by decide +kernel))
theorem dX12_drop_71 : decode cX12_drop 71 = .ok (.ireturn, 1) := dq_172 (fd_r fcX12_drop (by decide +kernel))
theorem dX12_turn_0 : decode cX12_turn 0 = .ok (.aload_n 0, 1) := dq_42 (fd_r fcX12_turn (by decide +kernel))
theorem dX12_turn_1 : decode cX12_turn 1 = .ok (.getfield 146, 3) := dq_180 (a := 0) (b := 146) (fd_r fcX12_turn (by decide +kernel)) rfl
theorem dX12_turn_4 : decode cX12_turn 4 = .ok (.ifCond .eq 13, 3) := dq_153 (a := 0) (b := 13) (fd_r fcX12_turn (by decide +kernel)) rfl
theorem dX12_turn_7 : decode cX12_turn 7 = .ok (.iload_n 1, 1) := dq_27 (fd_r fcX12_turn (by decide +kernel))
theorem dX12_turn_8 : decode cX12_turn 8 = .ok (.iconst 0, 1) := dq_3 (fd_r fcX12_turn (by decide +kernel))
theorem dX12_turn_9 : decode cX12_turn 9 = .ok (.bipush 7, 2) := dq_16 (a := 7) (fd_r fcX12_turn (by decide +kernel)) rfl
theorem dX12_turn_11 : decode cX12_turn 11 = .ok (.invokestatic 362, 3) := dq_184 (a := 1) (b := 106) (fd_r fcX12_turn (by decide +kernel)) rfl
theorem dX12_turn_14 : decode cX12_turn 14 = .ok (.ifCond .ne 9, 3) := dq_154 (a := 0) (b := 9) (fd_r fcX12_turn (by decide +kernel)) rfl
theorem dX12_turn_17 : decode cX12_turn 17 = .ok (.aload_n 0, 1) := dq_42 (fd_r fcX12_turn (by decide +kernel))
theorem dX12_turn_18 : decode cX12_turn 18 = .ok (.iconst 3, 1) := dq_6 (fd_r fcX12_turn (by decide +kernel))
theorem dX12_turn_19 : decode cX12_turn 19 = .ok (.invokevirtual 312, 3) := dq_182 (a := 1) (b := 56) (fd_r fcX12_turn (by decide +kernel)) rfl
theorem dX12_turn_22 : decode cX12_turn 22 = .ok (.ireturn, 1) := dq_172 (fd_r fcX12_turn (by decide +kernel))
theorem dX12_turn_23 : decode cX12_turn 23 = .ok (.aload_n 0, 1) := dq_42 (fd_r fcX12_turn (by decide +kernel))
theorem dX12_turn_24 : decode cX12_turn 24 = .ok (.invokevirtual 628, 3) := dq_182 (a := 2) (b := 116) (fd_r fcX12_turn (by decide +kernel)) rfl
theorem dX12_turn_27 : decode cX12_turn 27 = .ok (.aload_n 0, 1) := dq_42 (fd_r fcX12_turn (by decide +kernel))
theorem dX12_turn_28 : decode cX12_turn 28 = .ok (.getfield 179, 3) := dq_180 (a := 0) (b := 179) (fd_r fcX12_turn (by decide +kernel)) rfl
theorem dX12_turn_31 : decode cX12_turn 31 = .ok (.iconst 0, 1) := dq_3 (fd_r fcX12_turn (by decide +kernel))
theorem dX12_turn_32 : decode cX12_turn 32 = .ok (.dup2, 1) := dq_92 (fd_r fcX12_turn (by decide +kernel))
theorem dX12_turn_33 : decode cX12_turn 33 = .ok (.iaload, 1) := dq_46 (fd_r fcX12_turn (by decide +kernel))
theorem dX12_turn_34 : decode cX12_turn 34 = .ok (.iconst 1, 1) := dq_4 (fd_r fcX12_turn (by decide +kernel))
theorem dX12_turn_35 : decode cX12_turn 35 = .ok (.iload_n 1, 1) := dq_27 (fd_r fcX12_turn (by decide +kernel))
theorem dX12_turn_36 : decode cX12_turn 36 = .ok (.ishl, 1) := dq_120 (fd_r fcX12_turn (by decide +kernel))
theorem dX12_turn_37 : decode cX12_turn 37 = .ok (.ixor, 1) := dq_130 (fd_r fcX12_turn (by decide +kernel))
theorem dX12_turn_38 : decode cX12_turn 38 = .ok (.iastore, 1) := dq_79 (fd_r fcX12_turn (by decide +kernel))
theorem dX12_turn_39 : decode cX12_turn 39 = .ok (.aload_n 0, 1) := dq_42 (fd_r fcX12_turn (by decide +kernel))
theorem dX12_turn_40 : decode cX12_turn 40 = .ok (.getfield 179, 3) := dq_180 (a := 0) (b := 179) (fd_r fcX12_turn (by decide +kernel)) rfl
theorem dX12_turn_43 : decode cX12_turn 43 = .ok (.iconst 0, 1) := dq_3 (fd_r fcX12_turn (by decide +kernel))
theorem dX12_turn_44 : decode cX12_turn 44 = .ok (.iaload, 1) := dq_46 (fd_r fcX12_turn (by decide +kernel))
theorem dX12_turn_45 : decode cX12_turn 45 = .ok (.iload_n 1, 1) := dq_27 (fd_r fcX12_turn (by decide +kernel))
theorem dX12_turn_46 : decode cX12_turn 46 = .ok (.ishr, 1) := dq_122 (fd_r fcX12_turn (by decide +kernel))
theorem dX12_turn_47 : decode cX12_turn 47 = .ok (.iconst 1, 1) := dq_4 (fd_r fcX12_turn (by decide +kernel))
theorem dX12_turn_48 : decode cX12_turn 48 = .ok (.iand, 1) := dq_126 (fd_r fcX12_turn (by decide +kernel))
theorem dX12_turn_49 : decode cX12_turn 49 = .ok (.ireturn, 1) := dq_172 (fd_r fcX12_turn (by decide +kernel))
theorem dX12_choose_0 : decode cX12_choose 0 = .ok (.aload_n 0, 1) := dq_42 (fd_r fcX12_choose (by decide +kernel))
theorem dX12_choose_1 : decode cX12_choose 1 = .ok (.getfield 146, 3) := dq_180 (a := 0) (b := 146) (fd_r fcX12_choose (by decide +kernel)) rfl
theorem dX12_choose_4 : decode cX12_choose 4 = .ok (.ifCond .eq 22, 3) := dq_153 (a := 0) (b := 22) (fd_r fcX12_choose (by decide +kernel)) rfl
theorem dX12_choose_7 : decode cX12_choose 7 = .ok (.iload_n 1, 1) := dq_27 (fd_r fcX12_choose (by decide +kernel))
theorem dX12_choose_8 : decode cX12_choose 8 = .ok (.iconst 0, 1) := dq_3 (fd_r fcX12_choose (by decide +kernel))
theorem dX12_choose_9 : decode cX12_choose 9 = .ok (.iconst 3, 1) := dq_6 (fd_r fcX12_choose (by decide +kernel))
theorem dX12_choose_10 : decode cX12_choose 10 = .ok (.invokestatic 362, 3) := dq_184 (a := 1) (b := 106) (fd_r fcX12_choose (by decide +kernel)) rfl
theorem dX12_choose_13 : decode cX12_choose 13 = .ok (.ifCond .eq 13, 3) := dq_153 (a := 0) (b := 13) (fd_r fcX12_choose (by decide +kernel)) rfl
theorem dX12_choose_16 : decode cX12_choose 16 = .ok (.aload_n 0, 1) := dq_42 (fd_r fcX12_choose (by decide +kernel))
theorem dX12_choose_17 : decode cX12_choose 17 = .ok (.getfield 182, 3) := dq_180 (a := 0) (b := 182) (fd_r fcX12_choose (by decide +kernel)) rfl
theorem dX12_choose_20 : decode cX12_choose 20 = .ok (.iconst 0, 1) := dq_3 (fd_r fcX12_choose (by decide +kernel))
theorem dX12_choose_21 : decode cX12_choose 21 = .ok (.iaload, 1) := dq_46 (fd_r fcX12_choose (by decide +kernel))
theorem dX12_choose_22 : decode cX12_choose 22 = .ok (.iload_n 1, 1) := dq_27 (fd_r fcX12_choose (by decide +kernel))
theorem dX12_choose_23 : decode cX12_choose 23 = .ok (.if_icmp .ne 17, 3) := dq_160 (a := 0) (b := 17) (fd_r fcX12_choose (by decide +kernel)) rfl
theorem dX12_choose_26 : decode cX12_choose 26 = .ok (.aload_n 0, 1) := dq_42 (fd_r fcX12_choose (by decide +kernel))
theorem dX12_choose_27 : decode cX12_choose 27 = .ok (.iconst 3, 1) := dq_6 (fd_r fcX12_choose (by decide +kernel))
theorem dX12_choose_28 : decode cX12_choose 28 = .ok (.invokevirtual 312, 3) := dq_182 (a := 1) (b := 56) (fd_r fcX12_choose (by decide +kernel)) rfl
theorem dX12_choose_31 : decode cX12_choose 31 = .ok (.ifCond .lt 7, 3) := dq_155 (a := 0) (b := 7) (fd_r fcX12_choose (by decide +kernel)) rfl
theorem dX12_choose_38 : decode cX12_choose 38 = .ok (.iconst 0, 1) := dq_3 (fd_r fcX12_choose (by decide +kernel))
theorem dX12_choose_39 : decode cX12_choose 39 = .ok (.ireturn, 1) := dq_172 (fd_r fcX12_choose (by decide +kernel))
theorem dX12_choose_40 : decode cX12_choose 40 = .ok (.aload_n 0, 1) := dq_42 (fd_r fcX12_choose (by decide +kernel))
theorem dX12_choose_41 : decode cX12_choose 41 = .ok (.invokevirtual 628, 3) := dq_182 (a := 2) (b := 116) (fd_r fcX12_choose (by decide +kernel)) rfl
theorem dX12_choose_44 : decode cX12_choose 44 = .ok (.aload_n 0, 1) := dq_42 (fd_r fcX12_choose (by decide +kernel))
theorem dX12_choose_45 : decode cX12_choose 45 = .ok (.getfield 182, 3) := dq_180 (a := 0) (b := 182) (fd_r fcX12_choose (by decide +kernel)) rfl
theorem dX12_choose_48 : decode cX12_choose 48 = .ok (.iconst 0, 1) := dq_3 (fd_r fcX12_choose (by decide +kernel))
theorem dX12_choose_49 : decode cX12_choose 49 = .ok (.iload_n 1, 1) := dq_27 (fd_r fcX12_choose (by decide +kernel))
theorem dX12_choose_50 : decode cX12_choose 50 = .ok (.iastore, 1) := dq_79 (fd_r fcX12_choose (by decide +kernel))
theorem dX12_choose_51 : decode cX12_choose 51 = .ok (.iconst 1, 1) := dq_4 (fd_r fcX12_choose (by decide +kernel))
theorem dX12_choose_52 : decode cX12_choose 52 = .ok (.ireturn, 1) := dq_172 (fd_r fcX12_choose (by decide +kernel))
theorem dX12_seed_0 : decode cX12_seed 0 = .ok (.iload_n 1, 1) := dq_27 (fd_r fcX12_seed (by decide +kernel))
theorem dX12_seed_1 : decode cX12_seed 1 = .ok (.ifCond .ge 17, 3) := dq_156 (a := 0) (b := 17) (fd_r fcX12_seed (by decide +kernel)) rfl
theorem dX12_seed_4 : decode cX12_seed 4 = .ok (.aload_n 0, 1) := dq_42 (fd_r fcX12_seed (by decide +kernel))
theorem dX12_seed_5 : decode cX12_seed 5 = .ok (.iconst 5, 1) := dq_8 (fd_r fcX12_seed (by decide +kernel))
theorem dX12_seed_6 : decode cX12_seed 6 = .ok (.invokevirtual 312, 3) := dq_182 (a := 1) (b := 56) (fd_r fcX12_seed (by decide +kernel)) rfl
theorem dX12_seed_9 : decode cX12_seed 9 = .ok (.ifCond .lt 7, 3) := dq_155 (a := 0) (b := 7) (fd_r fcX12_seed (by decide +kernel)) rfl
theorem dX12_seed_16 : decode cX12_seed 16 = .ok (.iconst 0, 1) := dq_3 (fd_r fcX12_seed (by decide +kernel))
theorem dX12_seed_17 : decode cX12_seed 17 = .ok (.ireturn, 1) := dq_172 (fd_r fcX12_seed (by decide +kernel))
theorem dX12_seed_18 : decode cX12_seed 18 = .ok (.aload_n 0, 1) := dq_42 (fd_r fcX12_seed (by decide +kernel))
theorem dX12_seed_19 : decode cX12_seed 19 = .ok (.iload_n 1, 1) := dq_27 (fd_r fcX12_seed (by decide +kernel))
theorem dX12_seed_20 : decode cX12_seed 20 = .ok (.i2l, 1) := dq_133 (fd_r fcX12_seed (by decide +kernel))
theorem dX12_seed_21 : decode cX12_seed 21 = .ok (.putfield 197, 3) := dq_181 (a := 0) (b := 197) (fd_r fcX12_seed (by decide +kernel)) rfl
theorem dX12_seed_24 : decode cX12_seed 24 = .ok (.iconst 1, 1) := dq_4 (fd_r fcX12_seed (by decide +kernel))
theorem dX12_seed_25 : decode cX12_seed 25 = .ok (.ireturn, 1) := dq_172 (fd_r fcX12_seed (by decide +kernel))
theorem dX12_kept_0 : decode cX12_kept 0 = .ok (.iload_n 1, 1) := dq_27 (fd_r fcX12_kept (by decide +kernel))
theorem dX12_kept_1 : decode cX12_kept 1 = .ok (.iconst 0, 1) := dq_3 (fd_r fcX12_kept (by decide +kernel))
theorem dX12_kept_2 : decode cX12_kept 2 = .ok (.aload_n 0, 1) := dq_42 (fd_r fcX12_kept (by decide +kernel))
theorem dX12_kept_3 : decode cX12_kept 3 = .ok (.getfield 185, 3) := dq_180 (a := 0) (b := 185) (fd_r fcX12_kept (by decide +kernel)) rfl
theorem dX12_kept_6 : decode cX12_kept 6 = .ok (.iconst 0, 1) := dq_3 (fd_r fcX12_kept (by decide +kernel))
theorem dX12_kept_7 : decode cX12_kept 7 = .ok (.iaload, 1) := dq_46 (fd_r fcX12_kept (by decide +kernel))
theorem dX12_kept_8 : decode cX12_kept 8 = .ok (.iconst 1, 1) := dq_4 (fd_r fcX12_kept (by decide +kernel))
theorem dX12_kept_9 : decode cX12_kept 9 = .ok (.isub, 1) := dq_100 (fd_r fcX12_kept (by decide +kernel))
theorem dX12_kept_10 : decode cX12_kept 10 = .ok (.invokestatic 362, 3) := dq_184 (a := 1) (b := 106) (fd_r fcX12_kept (by decide +kernel)) rfl
theorem dX12_kept_13 : decode cX12_kept 13 = .ok (.ifCond .eq 25, 3) := dq_153 (a := 0) (b := 25) (fd_r fcX12_kept (by decide +kernel)) rfl
theorem dX12_kept_16 : decode cX12_kept 16 = .ok (.iload_n 2, 1) := dq_28 (fd_r fcX12_kept (by decide +kernel))
theorem dX12_kept_17 : decode cX12_kept 17 = .ok (.iconst 0, 1) := dq_3 (fd_r fcX12_kept (by decide +kernel))
theorem dX12_kept_18 : decode cX12_kept 18 = .ok (.iconst 2, 1) := dq_5 (fd_r fcX12_kept (by decide +kernel))
theorem dX12_kept_19 : decode cX12_kept 19 = .ok (.invokestatic 362, 3) := dq_184 (a := 1) (b := 106) (fd_r fcX12_kept (by decide +kernel)) rfl
theorem dX12_kept_22 : decode cX12_kept 22 = .ok (.ifCond .eq 16, 3) := dq_153 (a := 0) (b := 16) (fd_r fcX12_kept (by decide +kernel)) rfl
theorem dX12_kept_25 : decode cX12_kept 25 = .ok (.aload_n 0, 1) := dq_42 (fd_r fcX12_kept (by decide +kernel))
theorem dX12_kept_26 : decode cX12_kept 26 = .ok (.getfield 188, 3) := dq_180 (a := 0) (b := 188) (fd_r fcX12_kept (by decide +kernel)) rfl
theorem dX12_kept_29 : decode cX12_kept 29 = .ok (.iconst 3, 1) := dq_6 (fd_r fcX12_kept (by decide +kernel))
theorem dX12_kept_30 : decode cX12_kept 30 = .ok (.iload_n 1, 1) := dq_27 (fd_r fcX12_kept (by decide +kernel))
theorem dX12_kept_31 : decode cX12_kept 31 = .ok (.imul, 1) := dq_104 (fd_r fcX12_kept (by decide +kernel))
theorem dX12_kept_32 : decode cX12_kept 32 = .ok (.iload_n 2, 1) := dq_28 (fd_r fcX12_kept (by decide +kernel))
theorem dX12_kept_33 : decode cX12_kept 33 = .ok (.iadd, 1) := dq_96 (fd_r fcX12_kept (by decide +kernel))
theorem dX12_kept_34 : decode cX12_kept 34 = .ok (.iaload, 1) := dq_46 (fd_r fcX12_kept (by decide +kernel))
theorem dX12_kept_35 : decode cX12_kept 35 = .ok (.goto 4, 3) := dq_167 (a := 0) (b := 4) (fd_r fcX12_kept (by decide +kernel)) rfl
theorem dX12_kept_38 : decode cX12_kept 38 = .ok (.iconst (-1), 1) := dq_2 (fd_r fcX12_kept (by decide +kernel))
theorem dX12_kept_39 : decode cX12_kept 39 = .ok (.ireturn, 1) := dq_172 (fd_r fcX12_kept (by decide +kernel))
theorem dX12_image_0 : decode cX12_image 0 = .ok (.aload_n 0, 1) := dq_42 (fd_r fcX12_image (by decide +kernel))
theorem dX12_image_1 : decode cX12_image 1 = .ok (.iconst 0, 1) := dq_3 (fd_r fcX12_image (by decide +kernel))
theorem dX12_image_2 : decode cX12_image 2 = .ok (.putfield 224, 3) := dq_181 (a := 0) (b := 224) (fd_r fcX12_image (by decide +kernel)) rfl
theorem dX12_image_5 : decode cX12_image 5 = .ok (.aload_n 0, 1) := dq_42 (fd_r fcX12_image (by decide +kernel))
theorem dX12_image_6 : decode cX12_image 6 = .ok (.aload_n 0, 1) := dq_42 (fd_r fcX12_image (by decide +kernel))
theorem dX12_image_7 : decode cX12_image 7 = .ok (.getfield 173, 3) := dq_180 (a := 0) (b := 173) (fd_r fcX12_image (by decide +kernel)) rfl
theorem dX12_image_10 : decode cX12_image 10 = .ok (.iconst 0, 1) := dq_3 (fd_r fcX12_image (by decide +kernel))
theorem dX12_image_11 : decode cX12_image 11 = .ok (.iaload, 1) := dq_46 (fd_r fcX12_image (by decide +kernel))
theorem dX12_image_12 : decode cX12_image 12 = .ok (.invokevirtual 528, 3) := dq_182 (a := 2) (b := 16) (fd_r fcX12_image (by decide +kernel)) rfl
theorem dX12_image_15 : decode cX12_image 15 = .ok (.iconst 0, 1) := dq_3 (fd_r fcX12_image (by decide +kernel))
theorem dX12_image_16 : decode cX12_image 16 = .ok (.istore_n 1, 1) := dq_60 (fd_r fcX12_image (by decide +kernel))
theorem dX12_image_17 : decode cX12_image 17 = .ok (.iload_n 1, 1) := dq_27 (fd_r fcX12_image (by decide +kernel))
theorem dX12_image_18 : decode cX12_image 18 = .ok (.aload_n 0, 1) := dq_42 (fd_r fcX12_image (by decide +kernel))
theorem dX12_image_19 : decode cX12_image 19 = .ok (.getfield 173, 3) := dq_180 (a := 0) (b := 173) (fd_r fcX12_image (by decide +kernel)) rfl
theorem dX12_image_22 : decode cX12_image 22 = .ok (.iconst 0, 1) := dq_3 (fd_r fcX12_image (by decide +kernel))
theorem dX12_image_23 : decode cX12_image 23 = .ok (.iaload, 1) := dq_46 (fd_r fcX12_image (by decide +kernel))
theorem dX12_image_24 : decode cX12_image 24 = .ok (.if_icmp .ge 19, 3) := dq_162 (a := 0) (b := 19) (fd_r fcX12_image (by decide +kernel)) rfl
theorem dX12_image_27 : decode cX12_image 27 = .ok (.aload_n 0, 1) := dq_42 (fd_r fcX12_image (by decide +kernel))
theorem dX12_image_28 : decode cX12_image 28 = .ok (.aload_n 0, 1) := dq_42 (fd_r fcX12_image (by decide +kernel))
theorem dX12_image_29 : decode cX12_image 29 = .ok (.getfield 176, 3) := dq_180 (a := 0) (b := 176) (fd_r fcX12_image (by decide +kernel)) rfl
theorem dX12_image_32 : decode cX12_image 32 = .ok (.iload_n 1, 1) := dq_27 (fd_r fcX12_image (by decide +kernel))
theorem dX12_image_33 : decode cX12_image 33 = .ok (.iaload, 1) := dq_46 (fd_r fcX12_image (by decide +kernel))
theorem dX12_image_34 : decode cX12_image 34 = .ok (.invokevirtual 528, 3) := dq_182 (a := 2) (b := 16) (fd_r fcX12_image (by decide +kernel)) rfl
theorem dX12_image_37 : decode cX12_image 37 = .ok (.iinc 1 1, 3) := dq_132 (a := 1) (b := 1) (fd_r fcX12_image (by decide +kernel)) rfl
theorem dX12_image_40 : decode cX12_image 40 = .ok (.goto (-23), 3) := dq_167 (a := 255) (b := 233) (fd_r fcX12_image (by decide +kernel)) rfl
theorem dX12_image_43 : decode cX12_image 43 = .ok (.aload_n 0, 1) := dq_42 (fd_r fcX12_image (by decide +kernel))
theorem dX12_image_44 : decode cX12_image 44 = .ok (.aload_n 0, 1) := dq_42 (fd_r fcX12_image (by decide +kernel))
theorem dX12_image_45 : decode cX12_image 45 = .ok (.getfield 179, 3) := dq_180 (a := 0) (b := 179) (fd_r fcX12_image (by decide +kernel)) rfl
theorem dX12_image_48 : decode cX12_image 48 = .ok (.iconst 0, 1) := dq_3 (fd_r fcX12_image (by decide +kernel))
theorem dX12_image_49 : decode cX12_image 49 = .ok (.iaload, 1) := dq_46 (fd_r fcX12_image (by decide +kernel))
theorem dX12_image_50 : decode cX12_image 50 = .ok (.invokevirtual 528, 3) := dq_182 (a := 2) (b := 16) (fd_r fcX12_image (by decide +kernel)) rfl
theorem dX12_image_53 : decode cX12_image 53 = .ok (.aload_n 0, 1) := dq_42 (fd_r fcX12_image (by decide +kernel))
theorem dX12_image_54 : decode cX12_image 54 = .ok (.aload_n 0, 1) := dq_42 (fd_r fcX12_image (by decide +kernel))
theorem dX12_image_55 : decode cX12_image 55 = .ok (.getfield 182, 3) := dq_180 (a := 0) (b := 182) (fd_r fcX12_image (by decide +kernel)) rfl
theorem dX12_image_58 : decode cX12_image 58 = .ok (.iconst 0, 1) := dq_3 (fd_r fcX12_image (by decide +kernel))
theorem dX12_image_59 : decode cX12_image 59 = .ok (.iaload, 1) := dq_46 (fd_r fcX12_image (by decide +kernel))
theorem dX12_image_60 : decode cX12_image 60 = .ok (.invokevirtual 528, 3) := dq_182 (a := 2) (b := 16) (fd_r fcX12_image (by decide +kernel)) rfl
theorem dX12_image_63 : decode cX12_image 63 = .ok (.sipush 199, 3) := dq_17 (a := 0) (b := 199) (fd_r fcX12_image (by decide +kernel)) rfl
theorem dX12_image_66 : decode cX12_image 66 = .ok (.istore_n 1, 1) := dq_60 (fd_r fcX12_image (by decide +kernel))
theorem dX12_image_67 : decode cX12_image 67 = .ok (.iconst 0, 1) := dq_3 (fd_r fcX12_image (by decide +kernel))
theorem dX12_image_68 : decode cX12_image 68 = .ok (.istore_n 2, 1) := dq_61 (fd_r fcX12_image (by decide +kernel))
theorem dX12_image_69 : decode cX12_image 69 = .ok (.iload_n 2, 1) := dq_28 (fd_r fcX12_image (by decide +kernel))
theorem dX12_image_70 : decode cX12_image 70 = .ok (.aload_n 0, 1) := dq_42 (fd_r fcX12_image (by decide +kernel))
theorem dX12_image_71 : decode cX12_image 71 = .ok (.getfield 224, 3) := dq_180 (a := 0) (b := 224) (fd_r fcX12_image (by decide +kernel)) rfl
theorem dX12_image_74 : decode cX12_image 74 = .ok (.if_icmp .ge 24, 3) := dq_162 (a := 0) (b := 24) (fd_r fcX12_image (by decide +kernel)) rfl
theorem dX12_image_77 : decode cX12_image 77 = .ok (.iconst 5, 1) := dq_8 (fd_r fcX12_image (by decide +kernel))
theorem dX12_image_78 : decode cX12_image 78 = .ok (.iload_n 1, 1) := dq_27 (fd_r fcX12_image (by decide +kernel))
theorem dX12_image_79 : decode cX12_image 79 = .ok (.imul, 1) := dq_104 (fd_r fcX12_image (by decide +kernel))
theorem dX12_image_80 : decode cX12_image 80 = .ok (.aload_n 0, 1) := dq_42 (fd_r fcX12_image (by decide +kernel))
theorem dX12_image_81 : decode cX12_image 81 = .ok (.getfield 221, 3) := dq_180 (a := 0) (b := 221) (fd_r fcX12_image (by decide +kernel)) rfl
theorem dX12_image_84 : decode cX12_image 84 = .ok (.iload_n 2, 1) := dq_28 (fd_r fcX12_image (by decide +kernel))
theorem dX12_image_85 : decode cX12_image 85 = .ok (.iaload, 1) := dq_46 (fd_r fcX12_image (by decide +kernel))
theorem dX12_image_86 : decode cX12_image 86 = .ok (.iadd, 1) := dq_96 (fd_r fcX12_image (by decide +kernel))
theorem dX12_image_87 : decode cX12_image 87 = .ok (.sipush 251, 3) := dq_17 (a := 0) (b := 251) (fd_r fcX12_image (by decide +kernel)) rfl
theorem dX12_image_90 : decode cX12_image 90 = .ok (.irem, 1) := dq_112 (fd_r fcX12_image (by decide +kernel))
theorem dX12_image_91 : decode cX12_image 91 = .ok (.istore_n 1, 1) := dq_60 (fd_r fcX12_image (by decide +kernel))
theorem dX12_image_92 : decode cX12_image 92 = .ok (.iinc 2 1, 3) := dq_132 (a := 2) (b := 1) (fd_r fcX12_image (by decide +kernel)) rfl
theorem dX12_image_95 : decode cX12_image 95 = .ok (.goto (-26), 3) := dq_167 (a := 255) (b := 230) (fd_r fcX12_image (by decide +kernel)) rfl
theorem dX12_image_98 : decode cX12_image 98 = .ok (.aload_n 0, 1) := dq_42 (fd_r fcX12_image (by decide +kernel))
theorem dX12_image_99 : decode cX12_image 99 = .ok (.iload_n 1, 1) := dq_27 (fd_r fcX12_image (by decide +kernel))
theorem dX12_image_100 : decode cX12_image 100 = .ok (.invokevirtual 528, 3) := dq_182 (a := 2) (b := 16) (fd_r fcX12_image (by decide +kernel)) rfl
theorem dX12_image_103 : decode cX12_image 103 = .ok (.aload_n 0, 1) := dq_42 (fd_r fcX12_image (by decide +kernel))
theorem dX12_image_104 : decode cX12_image 104 = .ok (.getfield 224, 3) := dq_180 (a := 0) (b := 224) (fd_r fcX12_image (by decide +kernel)) rfl
theorem dX12_image_107 : decode cX12_image 107 = .ok (.ireturn, 1) := dq_172 (fd_r fcX12_image (by decide +kernel))
theorem dX12_comesOn_0 : decode cX12_comesOn 0 = .ok (.aload_n 0, 1) := dq_42 (fd_r fcX12_comesOn (by decide +kernel))
theorem dX12_comesOn_1 : decode cX12_comesOn 1 = .ok (.getfield 146, 3) := dq_180 (a := 0) (b := 146) (fd_r fcX12_comesOn (by decide +kernel)) rfl
theorem dX12_comesOn_4 : decode cX12_comesOn 4 = .ok (.ifCond .eq 38, 3) := dq_153 (a := 0) (b := 38) (fd_r fcX12_comesOn (by decide +kernel)) rfl
theorem dX12_comesOn_7 : decode cX12_comesOn 7 = .ok (.iload_n 1, 1) := dq_27 (fd_r fcX12_comesOn (by decide +kernel))
theorem dX12_comesOn_8 : decode cX12_comesOn 8 = .ok (.iconst 4, 1) := dq_7 (fd_r fcX12_comesOn (by decide +kernel))
theorem dX12_comesOn_9 : decode cX12_comesOn 9 = .ok (.if_icmp .lt 33, 3) := dq_161 (a := 0) (b := 33) (fd_r fcX12_comesOn (by decide +kernel)) rfl
theorem dX12_comesOn_12 : decode cX12_comesOn 12 = .ok (.aload_n 0, 1) := dq_42 (fd_r fcX12_comesOn (by decide +kernel))
theorem dX12_comesOn_13 : decode cX12_comesOn 13 = .ok (.getfield 7, 3) := dq_180 (a := 0) (b := 7) (fd_r fcX12_comesOn (by decide +kernel)) rfl
theorem dX12_comesOn_16 : decode cX12_comesOn 16 = .ok (.iconst 0, 1) := dq_3 (fd_r fcX12_comesOn (by decide +kernel))
theorem dX12_comesOn_17 : decode cX12_comesOn 17 = .ok (.iaload, 1) := dq_46 (fd_r fcX12_comesOn (by decide +kernel))
theorem dX12_comesOn_18 : decode cX12_comesOn 18 = .ok (.aload_n 0, 1) := dq_42 (fd_r fcX12_comesOn (by decide +kernel))
theorem dX12_comesOn_19 : decode cX12_comesOn 19 = .ok (.getfield 87, 3) := dq_180 (a := 0) (b := 87) (fd_r fcX12_comesOn (by decide +kernel)) rfl
theorem dX12_comesOn_22 : decode cX12_comesOn 22 = .ok (.aload_n 0, 1) := dq_42 (fd_r fcX12_comesOn (by decide +kernel))
theorem dX12_comesOn_23 : decode cX12_comesOn 23 = .ok (.getfield 51, 3) := dq_180 (a := 0) (b := 51) (fd_r fcX12_comesOn (by decide +kernel)) rfl
theorem dX12_comesOn_26 : decode cX12_comesOn 26 = .ok (.iaload, 1) := dq_46 (fd_r fcX12_comesOn (by decide +kernel))
theorem dX12_comesOn_27 : decode cX12_comesOn 27 = .ok (.if_icmp .gt 15, 3) := dq_163 (a := 0) (b := 15) (fd_r fcX12_comesOn (by decide +kernel)) rfl
theorem dX12_comesOn_30 : decode cX12_comesOn 30 = .ok (.iload_n 1, 1) := dq_27 (fd_r fcX12_comesOn (by decide +kernel))
theorem dX12_comesOn_31 : decode cX12_comesOn 31 = .ok (.aload_n 0, 1) := dq_42 (fd_r fcX12_comesOn (by decide +kernel))
theorem dX12_comesOn_32 : decode cX12_comesOn 32 = .ok (.getfield 7, 3) := dq_180 (a := 0) (b := 7) (fd_r fcX12_comesOn (by decide +kernel)) rfl
theorem dX12_comesOn_35 : decode cX12_comesOn 35 = .ok (.iconst 0, 1) := dq_3 (fd_r fcX12_comesOn (by decide +kernel))
theorem dX12_comesOn_36 : decode cX12_comesOn 36 = .ok (.iaload, 1) := dq_46 (fd_r fcX12_comesOn (by decide +kernel))
theorem dX12_comesOn_37 : decode cX12_comesOn 37 = .ok (.iconst 4, 1) := dq_7 (fd_r fcX12_comesOn (by decide +kernel))
theorem dX12_comesOn_38 : decode cX12_comesOn 38 = .ok (.iadd, 1) := dq_96 (fd_r fcX12_comesOn (by decide +kernel))
theorem dX12_comesOn_39 : decode cX12_comesOn 39 = .ok (.if_icmp .eq 5, 3) := dq_159 (a := 0) (b := 5) (fd_r fcX12_comesOn (by decide +kernel)) rfl
theorem dX12_comesOn_42 : decode cX12_comesOn 42 = .ok (.iconst 0, 1) := dq_3 (fd_r fcX12_comesOn (by decide +kernel))
theorem dX12_comesOn_43 : decode cX12_comesOn 43 = .ok (.ireturn, 1) := dq_172 (fd_r fcX12_comesOn (by decide +kernel))
theorem dX12_comesOn_44 : decode cX12_comesOn 44 = .ok (.sipush 199, 3) := dq_17 (a := 0) (b := 199) (fd_r fcX12_comesOn (by decide +kernel)) rfl
theorem dX12_comesOn_47 : decode cX12_comesOn 47 = .ok (.istore_n 2, 1) := dq_61 (fd_r fcX12_comesOn (by decide +kernel))
theorem dX12_comesOn_48 : decode cX12_comesOn 48 = .ok (.iconst 0, 1) := dq_3 (fd_r fcX12_comesOn (by decide +kernel))
theorem dX12_comesOn_49 : decode cX12_comesOn 49 = .ok (.istore_n 3, 1) := dq_62 (fd_r fcX12_comesOn (by decide +kernel))
theorem dX12_comesOn_50 : decode cX12_comesOn 50 = .ok (.iload_n 3, 1) := dq_29 (fd_r fcX12_comesOn (by decide +kernel))
theorem dX12_comesOn_51 : decode cX12_comesOn 51 = .ok (.iload_n 1, 1) := dq_27 (fd_r fcX12_comesOn (by decide +kernel))
theorem dX12_comesOn_52 : decode cX12_comesOn 52 = .ok (.iconst 1, 1) := dq_4 (fd_r fcX12_comesOn (by decide +kernel))
theorem dX12_comesOn_53 : decode cX12_comesOn 53 = .ok (.isub, 1) := dq_100 (fd_r fcX12_comesOn (by decide +kernel))
theorem dX12_comesOn_54 : decode cX12_comesOn 54 = .ok (.if_icmp .ge 24, 3) := dq_162 (a := 0) (b := 24) (fd_r fcX12_comesOn (by decide +kernel)) rfl
theorem dX12_comesOn_57 : decode cX12_comesOn 57 = .ok (.iconst 5, 1) := dq_8 (fd_r fcX12_comesOn (by decide +kernel))
theorem dX12_comesOn_58 : decode cX12_comesOn 58 = .ok (.iload_n 2, 1) := dq_28 (fd_r fcX12_comesOn (by decide +kernel))
theorem dX12_comesOn_59 : decode cX12_comesOn 59 = .ok (.imul, 1) := dq_104 (fd_r fcX12_comesOn (by decide +kernel))
theorem dX12_comesOn_60 : decode cX12_comesOn 60 = .ok (.aload_n 0, 1) := dq_42 (fd_r fcX12_comesOn (by decide +kernel))
theorem dX12_comesOn_61 : decode cX12_comesOn 61 = .ok (.getfield 7, 3) := dq_180 (a := 0) (b := 7) (fd_r fcX12_comesOn (by decide +kernel)) rfl
theorem dX12_comesOn_64 : decode cX12_comesOn 64 = .ok (.iload_n 3, 1) := dq_29 (fd_r fcX12_comesOn (by decide +kernel))
theorem dX12_comesOn_65 : decode cX12_comesOn 65 = .ok (.iaload, 1) := dq_46 (fd_r fcX12_comesOn (by decide +kernel))
theorem dX12_comesOn_66 : decode cX12_comesOn 66 = .ok (.iadd, 1) := dq_96 (fd_r fcX12_comesOn (by decide +kernel))
theorem dX12_comesOn_67 : decode cX12_comesOn 67 = .ok (.sipush 251, 3) := dq_17 (a := 0) (b := 251) (fd_r fcX12_comesOn (by decide +kernel)) rfl
theorem dX12_comesOn_70 : decode cX12_comesOn 70 = .ok (.irem, 1) := dq_112 (fd_r fcX12_comesOn (by decide +kernel))
theorem dX12_comesOn_71 : decode cX12_comesOn 71 = .ok (.istore_n 2, 1) := dq_61 (fd_r fcX12_comesOn (by decide +kernel))
theorem dX12_comesOn_72 : decode cX12_comesOn 72 = .ok (.iinc 3 1, 3) := dq_132 (a := 3) (b := 1) (fd_r fcX12_comesOn (by decide +kernel)) rfl
theorem dX12_comesOn_75 : decode cX12_comesOn 75 = .ok (.goto (-25), 3) := dq_167 (a := 255) (b := 231) (fd_r fcX12_comesOn (by decide +kernel)) rfl
theorem dX12_comesOn_78 : decode cX12_comesOn 78 = .ok (.aload_n 0, 1) := dq_42 (fd_r fcX12_comesOn (by decide +kernel))
theorem dX12_comesOn_79 : decode cX12_comesOn 79 = .ok (.getfield 7, 3) := dq_180 (a := 0) (b := 7) (fd_r fcX12_comesOn (by decide +kernel)) rfl
theorem dX12_comesOn_82 : decode cX12_comesOn 82 = .ok (.iload_n 1, 1) := dq_27 (fd_r fcX12_comesOn (by decide +kernel))
theorem dX12_comesOn_83 : decode cX12_comesOn 83 = .ok (.iconst 1, 1) := dq_4 (fd_r fcX12_comesOn (by decide +kernel))
theorem dX12_comesOn_84 : decode cX12_comesOn 84 = .ok (.isub, 1) := dq_100 (fd_r fcX12_comesOn (by decide +kernel))
theorem dX12_comesOn_85 : decode cX12_comesOn 85 = .ok (.iaload, 1) := dq_46 (fd_r fcX12_comesOn (by decide +kernel))
theorem dX12_comesOn_86 : decode cX12_comesOn 86 = .ok (.iload_n 2, 1) := dq_28 (fd_r fcX12_comesOn (by decide +kernel))
theorem dX12_comesOn_87 : decode cX12_comesOn 87 = .ok (.if_icmp .ne 15, 3) := dq_160 (a := 0) (b := 15) (fd_r fcX12_comesOn (by decide +kernel)) rfl
theorem dX12_comesOn_90 : decode cX12_comesOn 90 = .ok (.aload_n 0, 1) := dq_42 (fd_r fcX12_comesOn (by decide +kernel))
theorem dX12_comesOn_91 : decode cX12_comesOn 91 = .ok (.getfield 7, 3) := dq_180 (a := 0) (b := 7) (fd_r fcX12_comesOn (by decide +kernel)) rfl
theorem dX12_comesOn_94 : decode cX12_comesOn 94 = .ok (.iload_n 1, 1) := dq_27 (fd_r fcX12_comesOn (by decide +kernel))
theorem dX12_comesOn_95 : decode cX12_comesOn 95 = .ok (.iconst 2, 1) := dq_5 (fd_r fcX12_comesOn (by decide +kernel))
theorem dX12_comesOn_96 : decode cX12_comesOn 96 = .ok (.isub, 1) := dq_100 (fd_r fcX12_comesOn (by decide +kernel))
theorem dX12_comesOn_97 : decode cX12_comesOn 97 = .ok (.iaload, 1) := dq_46 (fd_r fcX12_comesOn (by decide +kernel))
theorem dX12_comesOn_98 : decode cX12_comesOn 98 = .ok (.iconst 4, 1) := dq_7 (fd_r fcX12_comesOn (by decide +kernel))
theorem dX12_comesOn_99 : decode cX12_comesOn 99 = .ok (.if_icmp .lt 5, 3) := dq_161 (a := 0) (b := 5) (fd_r fcX12_comesOn (by decide +kernel)) rfl
theorem dX12_comesOn_102 : decode cX12_comesOn 102 = .ok (.iconst 0, 1) := dq_3 (fd_r fcX12_comesOn (by decide +kernel))
theorem dX12_comesOn_103 : decode cX12_comesOn 103 = .ok (.ireturn, 1) := dq_172 (fd_r fcX12_comesOn (by decide +kernel))
theorem dX12_comesOn_104 : decode cX12_comesOn 104 = .ok (.aload_n 0, 1) := dq_42 (fd_r fcX12_comesOn (by decide +kernel))
theorem dX12_comesOn_105 : decode cX12_comesOn 105 = .ok (.iconst 1, 1) := dq_4 (fd_r fcX12_comesOn (by decide +kernel))
theorem dX12_comesOn_106 : decode cX12_comesOn 106 = .ok (.iconst 0, 1) := dq_3 (fd_r fcX12_comesOn (by decide +kernel))
theorem dX12_comesOn_107 : decode cX12_comesOn 107 = .ok (.invokevirtual 472, 3) := dq_182 (a := 1) (b := 216) (fd_r fcX12_comesOn (by decide +kernel)) rfl
theorem dX12_comesOn_110 : decode cX12_comesOn 110 = .ok (.aload_n 0, 1) := dq_42 (fd_r fcX12_comesOn (by decide +kernel))
theorem dX12_comesOn_111 : decode cX12_comesOn 111 = .ok (.getfield 173, 3) := dq_180 (a := 0) (b := 173) (fd_r fcX12_comesOn (by decide +kernel)) rfl
theorem dX12_comesOn_114 : decode cX12_comesOn 114 = .ok (.iconst 1, 1) := dq_4 (fd_r fcX12_comesOn (by decide +kernel))
theorem dX12_comesOn_115 : decode cX12_comesOn 115 = .ok (.aload_n 0, 1) := dq_42 (fd_r fcX12_comesOn (by decide +kernel))
theorem dX12_comesOn_116 : decode cX12_comesOn 116 = .ok (.getfield 7, 3) := dq_180 (a := 0) (b := 7) (fd_r fcX12_comesOn (by decide +kernel)) rfl
theorem dX12_comesOn_119 : decode cX12_comesOn 119 = .ok (.iconst 0, 1) := dq_3 (fd_r fcX12_comesOn (by decide +kernel))
theorem dX12_comesOn_120 : decode cX12_comesOn 120 = .ok (.iaload, 1) := dq_46 (fd_r fcX12_comesOn (by decide +kernel))
theorem dX12_comesOn_121 : decode cX12_comesOn 121 = .ok (.iastore, 1) := dq_79 (fd_r fcX12_comesOn (by decide +kernel))
theorem dX12_comesOn_122 : decode cX12_comesOn 122 = .ok (.iconst 0, 1) := dq_3 (fd_r fcX12_comesOn (by decide +kernel))
theorem dX12_comesOn_123 : decode cX12_comesOn 123 = .ok (.istore_n 3, 1) := dq_62 (fd_r fcX12_comesOn (by decide +kernel))
theorem dX12_comesOn_124 : decode cX12_comesOn 124 = .ok (.iconst 0, 1) := dq_3 (fd_r fcX12_comesOn (by decide +kernel))
theorem dX12_comesOn_125 : decode cX12_comesOn 125 = .ok (.istore 4, 2) := dq_54 (a := 4) (fd_r fcX12_comesOn (by decide +kernel))
theorem dX12_comesOn_127 : decode cX12_comesOn 127 = .ok (.iload 4, 2) := dq_21 (a := 4) (fd_r fcX12_comesOn (by decide +kernel))
theorem dX12_comesOn_129 : decode cX12_comesOn 129 = .ok (.aload_n 0, 1) := dq_42 (fd_r fcX12_comesOn (by decide +kernel))
theorem dX12_comesOn_130 : decode cX12_comesOn 130 = .ok (.getfield 7, 3) := dq_180 (a := 0) (b := 7) (fd_r fcX12_comesOn (by decide +kernel)) rfl
theorem dX12_comesOn_133 : decode cX12_comesOn 133 = .ok (.iconst 0, 1) := dq_3 (fd_r fcX12_comesOn (by decide +kernel))
theorem dX12_comesOn_134 : decode cX12_comesOn 134 = .ok (.iaload, 1) := dq_46 (fd_r fcX12_comesOn (by decide +kernel))
theorem dX12_comesOn_135 : decode cX12_comesOn 135 = .ok (.if_icmp .ge 65, 3) := dq_162 (a := 0) (b := 65) (fd_r fcX12_comesOn (by decide +kernel)) rfl
theorem dX12_comesOn_138 : decode cX12_comesOn 138 = .ok (.aload_n 0, 1) := dq_42 (fd_r fcX12_comesOn (by decide +kernel))
theorem dX12_comesOn_139 : decode cX12_comesOn 139 = .ok (.getfield 7, 3) := dq_180 (a := 0) (b := 7) (fd_r fcX12_comesOn (by decide +kernel)) rfl
theorem dX12_comesOn_142 : decode cX12_comesOn 142 = .ok (.iconst 1, 1) := dq_4 (fd_r fcX12_comesOn (by decide +kernel))
theorem dX12_comesOn_143 : decode cX12_comesOn 143 = .ok (.iload 4, 2) := dq_21 (a := 4) (fd_r fcX12_comesOn (by decide +kernel))
theorem dX12_comesOn_145 : decode cX12_comesOn 145 = .ok (.iadd, 1) := dq_96 (fd_r fcX12_comesOn (by decide +kernel))
theorem dX12_comesOn_146 : decode cX12_comesOn 146 = .ok (.iaload, 1) := dq_46 (fd_r fcX12_comesOn (by decide +kernel))
theorem dX12_comesOn_147 : decode cX12_comesOn 147 = .ok (.istore 5, 2) := dq_54 (a := 5) (fd_r fcX12_comesOn (by decide +kernel))
theorem dX12_comesOn_149 : decode cX12_comesOn 149 = .ok (.iload 5, 2) := dq_21 (a := 5) (fd_r fcX12_comesOn (by decide +kernel))
theorem dX12_comesOn_151 : decode cX12_comesOn 151 = .ok (.aload_n 0, 1) := dq_42 (fd_r fcX12_comesOn (by decide +kernel))
theorem dX12_comesOn_152 : decode cX12_comesOn 152 = .ok (.getfield 87, 3) := dq_180 (a := 0) (b := 87) (fd_r fcX12_comesOn (by decide +kernel)) rfl
theorem dX12_comesOn_155 : decode cX12_comesOn 155 = .ok (.aload_n 0, 1) := dq_42 (fd_r fcX12_comesOn (by decide +kernel))
theorem dX12_comesOn_156 : decode cX12_comesOn 156 = .ok (.getfield 51, 3) := dq_180 (a := 0) (b := 51) (fd_r fcX12_comesOn (by decide +kernel)) rfl
theorem dX12_comesOn_159 : decode cX12_comesOn 159 = .ok (.iaload, 1) := dq_46 (fd_r fcX12_comesOn (by decide +kernel))
theorem dX12_comesOn_160 : decode cX12_comesOn 160 = .ok (.if_icmp .ge 13, 3) := dq_162 (a := 0) (b := 13) (fd_r fcX12_comesOn (by decide +kernel)) rfl
theorem dX12_comesOn_163 : decode cX12_comesOn 163 = .ok (.iload_n 3, 1) := dq_29 (fd_r fcX12_comesOn (by decide +kernel))
theorem dX12_comesOn_164 : decode cX12_comesOn 164 = .ok (.iload 5, 2) := dq_21 (a := 5) (fd_r fcX12_comesOn (by decide +kernel))
theorem dX12_comesOn_166 : decode cX12_comesOn 166 = .ok (.ishr, 1) := dq_122 (fd_r fcX12_comesOn (by decide +kernel))
theorem dX12_comesOn_167 : decode cX12_comesOn 167 = .ok (.iconst 1, 1) := dq_4 (fd_r fcX12_comesOn (by decide +kernel))
theorem dX12_comesOn_168 : decode cX12_comesOn 168 = .ok (.iand, 1) := dq_126 (fd_r fcX12_comesOn (by decide +kernel))
theorem dX12_comesOn_169 : decode cX12_comesOn 169 = .ok (.iconst 1, 1) := dq_4 (fd_r fcX12_comesOn (by decide +kernel))
theorem dX12_comesOn_170 : decode cX12_comesOn 170 = .ok (.if_icmp .ne 5, 3) := dq_160 (a := 0) (b := 5) (fd_r fcX12_comesOn (by decide +kernel)) rfl
theorem dX12_comesOn_173 : decode cX12_comesOn 173 = .ok (.iconst 0, 1) := dq_3 (fd_r fcX12_comesOn (by decide +kernel))
theorem dX12_comesOn_174 : decode cX12_comesOn 174 = .ok (.ireturn, 1) := dq_172 (fd_r fcX12_comesOn (by decide +kernel))
theorem dX12_comesOn_175 : decode cX12_comesOn 175 = .ok (.iload_n 3, 1) := dq_29 (fd_r fcX12_comesOn (by decide +kernel))
theorem dX12_comesOn_176 : decode cX12_comesOn 176 = .ok (.iconst 1, 1) := dq_4 (fd_r fcX12_comesOn (by decide +kernel))
theorem dX12_comesOn_177 : decode cX12_comesOn 177 = .ok (.iload 5, 2) := dq_21 (a := 5) (fd_r fcX12_comesOn (by decide +kernel))
theorem dX12_comesOn_179 : decode cX12_comesOn 179 = .ok (.ishl, 1) := dq_120 (fd_r fcX12_comesOn (by decide +kernel))
theorem dX12_comesOn_180 : decode cX12_comesOn 180 = .ok (.ior, 1) := dq_128 (fd_r fcX12_comesOn (by decide +kernel))
theorem dX12_comesOn_181 : decode cX12_comesOn 181 = .ok (.istore_n 3, 1) := dq_62 (fd_r fcX12_comesOn (by decide +kernel))
theorem dX12_comesOn_182 : decode cX12_comesOn 182 = .ok (.aload_n 0, 1) := dq_42 (fd_r fcX12_comesOn (by decide +kernel))
theorem dX12_comesOn_183 : decode cX12_comesOn 183 = .ok (.getfield 176, 3) := dq_180 (a := 0) (b := 176) (fd_r fcX12_comesOn (by decide +kernel)) rfl
theorem dX12_comesOn_186 : decode cX12_comesOn 186 = .ok (.bipush 12, 2) := dq_16 (a := 12) (fd_r fcX12_comesOn (by decide +kernel)) rfl
theorem dX12_comesOn_188 : decode cX12_comesOn 188 = .ok (.iload 4, 2) := dq_21 (a := 4) (fd_r fcX12_comesOn (by decide +kernel))
theorem dX12_comesOn_190 : decode cX12_comesOn 190 = .ok (.iadd, 1) := dq_96 (fd_r fcX12_comesOn (by decide +kernel))
theorem dX12_comesOn_191 : decode cX12_comesOn 191 = .ok (.iload 5, 2) := dq_21 (a := 5) (fd_r fcX12_comesOn (by decide +kernel))
theorem dX12_comesOn_193 : decode cX12_comesOn 193 = .ok (.iastore, 1) := dq_79 (fd_r fcX12_comesOn (by decide +kernel))
theorem dX12_comesOn_194 : decode cX12_comesOn 194 = .ok (.iinc 4 1, 3) := dq_132 (a := 4) (b := 1) (fd_r fcX12_comesOn (by decide +kernel)) rfl
theorem dX12_comesOn_197 : decode cX12_comesOn 197 = .ok (.goto (-70), 3) := dq_167 (a := 255) (b := 186) (fd_r fcX12_comesOn (by decide +kernel)) rfl
theorem dX12_comesOn_200 : decode cX12_comesOn 200 = .ok (.aload_n 0, 1) := dq_42 (fd_r fcX12_comesOn (by decide +kernel))
theorem dX12_comesOn_201 : decode cX12_comesOn 201 = .ok (.getfield 179, 3) := dq_180 (a := 0) (b := 179) (fd_r fcX12_comesOn (by decide +kernel)) rfl
theorem dX12_comesOn_204 : decode cX12_comesOn 204 = .ok (.iconst 1, 1) := dq_4 (fd_r fcX12_comesOn (by decide +kernel))
theorem dX12_comesOn_205 : decode cX12_comesOn 205 = .ok (.aload_n 0, 1) := dq_42 (fd_r fcX12_comesOn (by decide +kernel))
theorem dX12_comesOn_206 : decode cX12_comesOn 206 = .ok (.getfield 7, 3) := dq_180 (a := 0) (b := 7) (fd_r fcX12_comesOn (by decide +kernel)) rfl
theorem dX12_comesOn_209 : decode cX12_comesOn 209 = .ok (.iload_n 1, 1) := dq_27 (fd_r fcX12_comesOn (by decide +kernel))
theorem dX12_comesOn_210 : decode cX12_comesOn 210 = .ok (.iconst 3, 1) := dq_6 (fd_r fcX12_comesOn (by decide +kernel))
theorem dX12_comesOn_211 : decode cX12_comesOn 211 = .ok (.isub, 1) := dq_100 (fd_r fcX12_comesOn (by decide +kernel))
theorem dX12_comesOn_212 : decode cX12_comesOn 212 = .ok (.iaload, 1) := dq_46 (fd_r fcX12_comesOn (by decide +kernel))
theorem dX12_comesOn_213 : decode cX12_comesOn 213 = .ok (.iastore, 1) := dq_79 (fd_r fcX12_comesOn (by decide +kernel))
theorem dX12_comesOn_214 : decode cX12_comesOn 214 = .ok (.aload_n 0, 1) := dq_42 (fd_r fcX12_comesOn (by decide +kernel))
theorem dX12_comesOn_215 : decode cX12_comesOn 215 = .ok (.getfield 182, 3) := dq_180 (a := 0) (b := 182) (fd_r fcX12_comesOn (by decide +kernel)) rfl
theorem dX12_comesOn_218 : decode cX12_comesOn 218 = .ok (.iconst 1, 1) := dq_4 (fd_r fcX12_comesOn (by decide +kernel))
theorem dX12_comesOn_219 : decode cX12_comesOn 219 = .ok (.aload_n 0, 1) := dq_42 (fd_r fcX12_comesOn (by decide +kernel))
theorem dX12_comesOn_220 : decode cX12_comesOn 220 = .ok (.getfield 7, 3) := dq_180 (a := 0) (b := 7) (fd_r fcX12_comesOn (by decide +kernel)) rfl
theorem dX12_comesOn_223 : decode cX12_comesOn 223 = .ok (.iload_n 1, 1) := dq_27 (fd_r fcX12_comesOn (by decide +kernel))
theorem dX12_comesOn_224 : decode cX12_comesOn 224 = .ok (.iconst 2, 1) := dq_5 (fd_r fcX12_comesOn (by decide +kernel))
theorem dX12_comesOn_225 : decode cX12_comesOn 225 = .ok (.isub, 1) := dq_100 (fd_r fcX12_comesOn (by decide +kernel))
theorem dX12_comesOn_226 : decode cX12_comesOn 226 = .ok (.iaload, 1) := dq_46 (fd_r fcX12_comesOn (by decide +kernel))
theorem dX12_comesOn_227 : decode cX12_comesOn 227 = .ok (.iastore, 1) := dq_79 (fd_r fcX12_comesOn (by decide +kernel))
theorem dX12_comesOn_228 : decode cX12_comesOn 228 = .ok (.aload_n 0, 1) := dq_42 (fd_r fcX12_comesOn (by decide +kernel))
theorem dX12_comesOn_229 : decode cX12_comesOn 229 = .ok (.getfield 185, 3) := dq_180 (a := 0) (b := 185) (fd_r fcX12_comesOn (by decide +kernel)) rfl
theorem dX12_comesOn_232 : decode cX12_comesOn 232 = .ok (.iconst 1, 1) := dq_4 (fd_r fcX12_comesOn (by decide +kernel))
theorem dX12_comesOn_233 : decode cX12_comesOn 233 = .ok (.iconst 0, 1) := dq_3 (fd_r fcX12_comesOn (by decide +kernel))
theorem dX12_comesOn_234 : decode cX12_comesOn 234 = .ok (.iastore, 1) := dq_79 (fd_r fcX12_comesOn (by decide +kernel))
theorem dX12_comesOn_235 : decode cX12_comesOn 235 = .ok (.iconst 1, 1) := dq_4 (fd_r fcX12_comesOn (by decide +kernel))
theorem dX12_comesOn_236 : decode cX12_comesOn 236 = .ok (.ireturn, 1) := dq_172 (fd_r fcX12_comesOn (by decide +kernel))
theorem dX12_on_0 : decode cX12_on 0 = .ok (.aload_n 0, 1) := dq_42 (fd_r fcX12_on (by decide +kernel))
theorem dX12_on_1 : decode cX12_on 1 = .ok (.getfield 13, 3) := dq_180 (a := 0) (b := 13) (fd_r fcX12_on (by decide +kernel)) rfl
theorem dX12_on_4 : decode cX12_on 4 = .ok (.istore_n 1, 1) := dq_60 (fd_r fcX12_on (by decide +kernel))
theorem dX12_on_5 : decode cX12_on 5 = .ok (.aload_n 0, 1) := dq_42 (fd_r fcX12_on (by decide +kernel))
theorem dX12_on_6 : decode cX12_on 6 = .ok (.iconst 0, 1) := dq_3 (fd_r fcX12_on (by decide +kernel))
theorem dX12_on_7 : decode cX12_on 7 = .ok (.putfield 13, 3) := dq_181 (a := 0) (b := 13) (fd_r fcX12_on (by decide +kernel)) rfl
theorem dX12_on_10 : decode cX12_on 10 = .ok (.aload_n 0, 1) := dq_42 (fd_r fcX12_on (by decide +kernel))
theorem dX12_on_11 : decode cX12_on 11 = .ok (.iload_n 1, 1) := dq_27 (fd_r fcX12_on (by decide +kernel))
theorem dX12_on_12 : decode cX12_on 12 = .ok (.invokevirtual 645, 3) := dq_182 (a := 2) (b := 133) (fd_r fcX12_on (by decide +kernel)) rfl
theorem dX12_on_15 : decode cX12_on 15 = .ok (.ifCond .ne 17, 3) := dq_154 (a := 0) (b := 17) (fd_r fcX12_on (by decide +kernel)) rfl
theorem dX12_on_18 : decode cX12_on 18 = .ok (.aload_n 0, 1) := dq_42 (fd_r fcX12_on (by decide +kernel))
theorem dX12_on_19 : decode cX12_on 19 = .ok (.iconst 5, 1) := dq_8 (fd_r fcX12_on (by decide +kernel))
theorem dX12_on_20 : decode cX12_on 20 = .ok (.invokevirtual 312, 3) := dq_182 (a := 1) (b := 56) (fd_r fcX12_on (by decide +kernel)) rfl
theorem dX12_on_23 : decode cX12_on 23 = .ok (.ifCond .lt 7, 3) := dq_155 (a := 0) (b := 7) (fd_r fcX12_on (by decide +kernel)) rfl
theorem dX12_on_30 : decode cX12_on 30 = .ok (.iconst 0, 1) := dq_3 (fd_r fcX12_on (by decide +kernel))
theorem dX12_on_31 : decode cX12_on 31 = .ok (.ireturn, 1) := dq_172 (fd_r fcX12_on (by decide +kernel))
theorem dX12_on_32 : decode cX12_on 32 = .ok (.aload_n 0, 1) := dq_42 (fd_r fcX12_on (by decide +kernel))
theorem dX12_on_33 : decode cX12_on 33 = .ok (.iconst 0, 1) := dq_3 (fd_r fcX12_on (by decide +kernel))
theorem dX12_on_34 : decode cX12_on 34 = .ok (.iconst 1, 1) := dq_4 (fd_r fcX12_on (by decide +kernel))
theorem dX12_on_35 : decode cX12_on 35 = .ok (.invokevirtual 472, 3) := dq_182 (a := 1) (b := 216) (fd_r fcX12_on (by decide +kernel)) rfl
theorem dX12_on_38 : decode cX12_on 38 = .ok (.aload_n 0, 1) := dq_42 (fd_r fcX12_on (by decide +kernel))
theorem dX12_on_39 : decode cX12_on 39 = .ok (.iconst 0, 1) := dq_3 (fd_r fcX12_on (by decide +kernel))
theorem dX12_on_40 : decode cX12_on 40 = .ok (.putfield 194, 3) := dq_181 (a := 0) (b := 194) (fd_r fcX12_on (by decide +kernel)) rfl
theorem dX12_on_43 : decode cX12_on 43 = .ok (.iconst 1, 1) := dq_4 (fd_r fcX12_on (by decide +kernel))
theorem dX12_on_44 : decode cX12_on 44 = .ok (.ireturn, 1) := dq_172 (fd_r fcX12_on (by decide +kernel))
theorem dJ6_bitCount_0f7a4_0 : decode cJ6_bitCount_0f7a4 0 = .ok (.iload_n 0, 1) := dq_26 (fd_r fcJ6_bitCount_0f7a4 (by decide +kernel))
theorem dJ6_bitCount_0f7a4_1 : decode cJ6_bitCount_0f7a4 1 = .ok (.iload_n 0, 1) := dq_26 (fd_r fcJ6_bitCount_0f7a4 (by decide +kernel))
theorem dJ6_bitCount_0f7a4_2 : decode cJ6_bitCount_0f7a4 2 = .ok (.iconst 1, 1) := dq_4 (fd_r fcJ6_bitCount_0f7a4 (by decide +kernel))
theorem dJ6_bitCount_0f7a4_3 : decode cJ6_bitCount_0f7a4 3 = .ok (.iushr, 1) := dq_124 (fd_r fcJ6_bitCount_0f7a4 (by decide +kernel))
theorem dJ6_bitCount_0f7a4_4 : decode cJ6_bitCount_0f7a4 4 = .ok (.ldc_w 265, 3) := dq_19 (a := 1) (b := 9) (fd_r fcJ6_bitCount_0f7a4 (by decide +kernel)) rfl
theorem dJ6_bitCount_0f7a4_7 : decode cJ6_bitCount_0f7a4 7 = .ok (.iand, 1) := dq_126 (fd_r fcJ6_bitCount_0f7a4 (by decide +kernel))
theorem dJ6_bitCount_0f7a4_8 : decode cJ6_bitCount_0f7a4 8 = .ok (.isub, 1) := dq_100 (fd_r fcJ6_bitCount_0f7a4 (by decide +kernel))
theorem dJ6_bitCount_0f7a4_9 : decode cJ6_bitCount_0f7a4 9 = .ok (.istore_n 0, 1) := dq_59 (fd_r fcJ6_bitCount_0f7a4 (by decide +kernel))
theorem dJ6_bitCount_0f7a4_10 : decode cJ6_bitCount_0f7a4 10 = .ok (.iload_n 0, 1) := dq_26 (fd_r fcJ6_bitCount_0f7a4 (by decide +kernel))
theorem dJ6_bitCount_0f7a4_11 : decode cJ6_bitCount_0f7a4 11 = .ok (.ldc_w 266, 3) := dq_19 (a := 1) (b := 10) (fd_r fcJ6_bitCount_0f7a4 (by decide +kernel)) rfl
theorem dJ6_bitCount_0f7a4_14 : decode cJ6_bitCount_0f7a4 14 = .ok (.iand, 1) := dq_126 (fd_r fcJ6_bitCount_0f7a4 (by decide +kernel))
theorem dJ6_bitCount_0f7a4_15 : decode cJ6_bitCount_0f7a4 15 = .ok (.iload_n 0, 1) := dq_26 (fd_r fcJ6_bitCount_0f7a4 (by decide +kernel))
theorem dJ6_bitCount_0f7a4_16 : decode cJ6_bitCount_0f7a4 16 = .ok (.iconst 2, 1) := dq_5 (fd_r fcJ6_bitCount_0f7a4 (by decide +kernel))
theorem dJ6_bitCount_0f7a4_17 : decode cJ6_bitCount_0f7a4 17 = .ok (.iushr, 1) := dq_124 (fd_r fcJ6_bitCount_0f7a4 (by decide +kernel))
theorem dJ6_bitCount_0f7a4_18 : decode cJ6_bitCount_0f7a4 18 = .ok (.ldc_w 266, 3) := dq_19 (a := 1) (b := 10) (fd_r fcJ6_bitCount_0f7a4 (by decide +kernel)) rfl
theorem dJ6_bitCount_0f7a4_21 : decode cJ6_bitCount_0f7a4 21 = .ok (.iand, 1) := dq_126 (fd_r fcJ6_bitCount_0f7a4 (by decide +kernel))
theorem dJ6_bitCount_0f7a4_22 : decode cJ6_bitCount_0f7a4 22 = .ok (.iadd, 1) := dq_96 (fd_r fcJ6_bitCount_0f7a4 (by decide +kernel))
theorem dJ6_bitCount_0f7a4_23 : decode cJ6_bitCount_0f7a4 23 = .ok (.istore_n 0, 1) := dq_59 (fd_r fcJ6_bitCount_0f7a4 (by decide +kernel))
theorem dJ6_bitCount_0f7a4_24 : decode cJ6_bitCount_0f7a4 24 = .ok (.iload_n 0, 1) := dq_26 (fd_r fcJ6_bitCount_0f7a4 (by decide +kernel))
theorem dJ6_bitCount_0f7a4_25 : decode cJ6_bitCount_0f7a4 25 = .ok (.iload_n 0, 1) := dq_26 (fd_r fcJ6_bitCount_0f7a4 (by decide +kernel))
end
section
theorem dJ6_bitCount_0f7a4_26 : decode cJ6_bitCount_0f7a4 26 = .ok (.iconst 4, 1) := dq_7 (fd_r fcJ6_bitCount_0f7a4 (by decide +kernel))
theorem dJ6_bitCount_0f7a4_27 : decode cJ6_bitCount_0f7a4 27 = .ok (.iushr, 1) := dq_124 (fd_r fcJ6_bitCount_0f7a4 (by decide +kernel))
theorem dJ6_bitCount_0f7a4_28 : decode cJ6_bitCount_0f7a4 28 = .ok (.iadd, 1) := dq_96 (fd_r fcJ6_bitCount_0f7a4 (by decide +kernel))
theorem dJ6_bitCount_0f7a4_29 : decode cJ6_bitCount_0f7a4 29 = .ok (.ldc_w 267, 3) := dq_19 (a := 1) (b := 11) (fd_r fcJ6_bitCount_0f7a4 (by decide +kernel)) rfl
theorem dJ6_bitCount_0f7a4_32 : decode cJ6_bitCount_0f7a4 32 = .ok (.iand, 1) := dq_126 (fd_r fcJ6_bitCount_0f7a4 (by decide +kernel))
theorem dJ6_bitCount_0f7a4_33 : decode cJ6_bitCount_0f7a4 33 = .ok (.istore_n 0, 1) := dq_59 (fd_r fcJ6_bitCount_0f7a4 (by decide +kernel))
theorem dJ6_bitCount_0f7a4_34 : decode cJ6_bitCount_0f7a4 34 = .ok (.iload_n 0, 1) := dq_26 (fd_r fcJ6_bitCount_0f7a4 (by decide +kernel))
theorem dJ6_bitCount_0f7a4_35 : decode cJ6_bitCount_0f7a4 35 = .ok (.iload_n 0, 1) := dq_26 (fd_r fcJ6_bitCount_0f7a4 (by decide +kernel))
theorem dJ6_bitCount_0f7a4_36 : decode cJ6_bitCount_0f7a4 36 = .ok (.bipush 8, 2) := dq_16 (a := 8) (fd_r fcJ6_bitCount_0f7a4 (by decide +kernel)) rfl
theorem dJ6_bitCount_0f7a4_38 : decode cJ6_bitCount_0f7a4 38 = .ok (.iushr, 1) := dq_124 (fd_r fcJ6_bitCount_0f7a4 (by decide +kernel))
theorem dJ6_bitCount_0f7a4_39 : decode cJ6_bitCount_0f7a4 39 = .ok (.iadd, 1) := dq_96 (fd_r fcJ6_bitCount_0f7a4 (by decide +kernel))
theorem dJ6_bitCount_0f7a4_40 : decode cJ6_bitCount_0f7a4 40 = .ok (.istore_n 0, 1) := dq_59 (fd_r fcJ6_bitCount_0f7a4 (by decide +kernel))
theorem dJ6_bitCount_0f7a4_41 : decode cJ6_bitCount_0f7a4 41 = .ok (.iload_n 0, 1) := dq_26 (fd_r fcJ6_bitCount_0f7a4 (by decide +kernel))
theorem dJ6_bitCount_0f7a4_42 : decode cJ6_bitCount_0f7a4 42 = .ok (.iload_n 0, 1) := dq_26 (fd_r fcJ6_bitCount_0f7a4 (by decide +kernel))
theorem dJ6_bitCount_0f7a4_43 : decode cJ6_bitCount_0f7a4 43 = .ok (.bipush 16, 2) := dq_16 (a := 16) (fd_r fcJ6_bitCount_0f7a4 (by decide +kernel)) rfl
theorem dJ6_bitCount_0f7a4_45 : decode cJ6_bitCount_0f7a4 45 = .ok (.iushr, 1) := dq_124 (fd_r fcJ6_bitCount_0f7a4 (by decide +kernel))
theorem dJ6_bitCount_0f7a4_46 : decode cJ6_bitCount_0f7a4 46 = .ok (.iadd, 1) := dq_96 (fd_r fcJ6_bitCount_0f7a4 (by decide +kernel))
theorem dJ6_bitCount_0f7a4_47 : decode cJ6_bitCount_0f7a4 47 = .ok (.istore_n 0, 1) := dq_59 (fd_r fcJ6_bitCount_0f7a4 (by decide +kernel))
theorem dJ6_bitCount_0f7a4_48 : decode cJ6_bitCount_0f7a4 48 = .ok (.iload_n 0, 1) := dq_26 (fd_r fcJ6_bitCount_0f7a4 (by decide +kernel))
theorem dJ6_bitCount_0f7a4_49 : decode cJ6_bitCount_0f7a4 49 = .ok (.bipush 63, 2) := dq_16 (a := 63) (fd_r fcJ6_bitCount_0f7a4 (by decide +kernel)) rfl
theorem dJ6_bitCount_0f7a4_51 : decode cJ6_bitCount_0f7a4 51 = .ok (.iand, 1) := dq_126 (fd_r fcJ6_bitCount_0f7a4 (by decide +kernel))
theorem dJ6_bitCount_0f7a4_52 : decode cJ6_bitCount_0f7a4 52 = .ok (.ireturn, 1) := dq_172 (fd_r fcJ6_bitCount_0f7a4 (by decide +kernel))
theorem dJ9_floorMod_7cf53_0 : decode cJ9_floorMod_7cf53 0 = .ok (.iload_n 0, 1) := dq_26 (fd_r fcJ9_floorMod_7cf53 (by decide +kernel))
theorem dJ9_floorMod_7cf53_1 : decode cJ9_floorMod_7cf53 1 = .ok (.iload_n 1, 1) := dq_27 (fd_r fcJ9_floorMod_7cf53 (by decide +kernel))
theorem dJ9_floorMod_7cf53_2 : decode cJ9_floorMod_7cf53 2 = .ok (.irem, 1) := dq_112 (fd_r fcJ9_floorMod_7cf53 (by decide +kernel))
theorem dJ9_floorMod_7cf53_3 : decode cJ9_floorMod_7cf53 3 = .ok (.istore_n 2, 1) := dq_61 (fd_r fcJ9_floorMod_7cf53 (by decide +kernel))
theorem dJ9_floorMod_7cf53_4 : decode cJ9_floorMod_7cf53 4 = .ok (.iload_n 0, 1) := dq_26 (fd_r fcJ9_floorMod_7cf53 (by decide +kernel))
theorem dJ9_floorMod_7cf53_5 : decode cJ9_floorMod_7cf53 5 = .ok (.iload_n 1, 1) := dq_27 (fd_r fcJ9_floorMod_7cf53 (by decide +kernel))
theorem dJ9_floorMod_7cf53_6 : decode cJ9_floorMod_7cf53 6 = .ok (.ixor, 1) := dq_130 (fd_r fcJ9_floorMod_7cf53 (by decide +kernel))
theorem dJ9_floorMod_7cf53_7 : decode cJ9_floorMod_7cf53 7 = .ok (.ifCond .ge 11, 3) := dq_156 (a := 0) (b := 11) (fd_r fcJ9_floorMod_7cf53 (by decide +kernel)) rfl
theorem dJ9_floorMod_7cf53_10 : decode cJ9_floorMod_7cf53 10 = .ok (.iload_n 2, 1) := dq_28 (fd_r fcJ9_floorMod_7cf53 (by decide +kernel))
theorem dJ9_floorMod_7cf53_11 : decode cJ9_floorMod_7cf53 11 = .ok (.ifCond .eq 7, 3) := dq_153 (a := 0) (b := 7) (fd_r fcJ9_floorMod_7cf53 (by decide +kernel)) rfl
theorem dJ9_floorMod_7cf53_14 : decode cJ9_floorMod_7cf53 14 = .ok (.iload_n 2, 1) := dq_28 (fd_r fcJ9_floorMod_7cf53 (by decide +kernel))
theorem dJ9_floorMod_7cf53_15 : decode cJ9_floorMod_7cf53 15 = .ok (.iload_n 1, 1) := dq_27 (fd_r fcJ9_floorMod_7cf53 (by decide +kernel))
theorem dJ9_floorMod_7cf53_16 : decode cJ9_floorMod_7cf53 16 = .ok (.iadd, 1) := dq_96 (fd_r fcJ9_floorMod_7cf53 (by decide +kernel))
theorem dJ9_floorMod_7cf53_17 : decode cJ9_floorMod_7cf53 17 = .ok (.ireturn, 1) := dq_172 (fd_r fcJ9_floorMod_7cf53 (by decide +kernel))
theorem dJ9_floorMod_7cf53_18 : decode cJ9_floorMod_7cf53 18 = .ok (.iload_n 2, 1) := dq_28 (fd_r fcJ9_floorMod_7cf53 (by decide +kernel))
theorem dJ9_floorMod_7cf53_19 : decode cJ9_floorMod_7cf53 19 = .ok (.ireturn, 1) := dq_172 (fd_r fcJ9_floorMod_7cf53 (by decide +kernel))
theorem dJ9_max_7cf53_0 : decode cJ9_max_7cf53 0 = .ok (.iload_n 0, 1) := dq_26 (fd_r fcJ9_max_7cf53 (by decide +kernel))
theorem dJ9_max_7cf53_1 : decode cJ9_max_7cf53 1 = .ok (.iload_n 1, 1) := dq_27 (fd_r fcJ9_max_7cf53 (by decide +kernel))
theorem dJ9_max_7cf53_2 : decode cJ9_max_7cf53 2 = .ok (.if_icmp .lt 7, 3) := dq_161 (a := 0) (b := 7) (fd_r fcJ9_max_7cf53 (by decide +kernel)) rfl
theorem dJ9_max_7cf53_5 : decode cJ9_max_7cf53 5 = .ok (.iload_n 0, 1) := dq_26 (fd_r fcJ9_max_7cf53 (by decide +kernel))
theorem dJ9_max_7cf53_6 : decode cJ9_max_7cf53 6 = .ok (.goto 4, 3) := dq_167 (a := 0) (b := 4) (fd_r fcJ9_max_7cf53 (by decide +kernel)) rfl
theorem dJ9_max_7cf53_9 : decode cJ9_max_7cf53 9 = .ok (.iload_n 1, 1) := dq_27 (fd_r fcJ9_max_7cf53 (by decide +kernel))
theorem dJ9_max_7cf53_10 : decode cJ9_max_7cf53 10 = .ok (.ireturn, 1) := dq_172 (fd_r fcJ9_max_7cf53 (by decide +kernel))
theorem dJ9_min_7cf53_0 : decode cJ9_min_7cf53 0 = .ok (.iload_n 0, 1) := dq_26 (fd_r fcJ9_min_7cf53 (by decide +kernel))
theorem dJ9_min_7cf53_1 : decode cJ9_min_7cf53 1 = .ok (.iload_n 1, 1) := dq_27 (fd_r fcJ9_min_7cf53 (by decide +kernel))
theorem dJ9_min_7cf53_2 : decode cJ9_min_7cf53 2 = .ok (.if_icmp .gt 7, 3) := dq_163 (a := 0) (b := 7) (fd_r fcJ9_min_7cf53 (by decide +kernel)) rfl
theorem dJ9_min_7cf53_5 : decode cJ9_min_7cf53 5 = .ok (.iload_n 0, 1) := dq_26 (fd_r fcJ9_min_7cf53 (by decide +kernel))
theorem dJ9_min_7cf53_6 : decode cJ9_min_7cf53 6 = .ok (.goto 4, 3) := dq_167 (a := 0) (b := 4) (fd_r fcJ9_min_7cf53 (by decide +kernel)) rfl
theorem dJ9_min_7cf53_9 : decode cJ9_min_7cf53 9 = .ok (.iload_n 1, 1) := dq_27 (fd_r fcJ9_min_7cf53 (by decide +kernel))
theorem dJ9_min_7cf53_10 : decode cJ9_min_7cf53 10 = .ok (.ireturn, 1) := dq_172 (fd_r fcJ9_min_7cf53 (by decide +kernel))
theorem dJ0_length_8abf5_0 : decode cJ0_length_8abf5 0 = .ok (.aload_n 0, 1) := dq_42 (fd_r fcJ0_length_8abf5 (by decide +kernel))
theorem dJ0_length_8abf5_1 : decode cJ0_length_8abf5 1 = .ok (.getfield 9, 3) := dq_180 (a := 0) (b := 9) (fd_r fcJ0_length_8abf5 (by decide +kernel)) rfl
theorem dJ0_length_8abf5_4 : decode cJ0_length_8abf5 4 = .ok (.arraylength, 1) := dq_190 (fd_r fcJ0_length_8abf5 (by decide +kernel))
theorem dJ0_length_8abf5_5 : decode cJ0_length_8abf5 5 = .ok (.aload_n 0, 1) := dq_42 (fd_r fcJ0_length_8abf5 (by decide +kernel))
theorem dJ0_length_8abf5_6 : decode cJ0_length_8abf5 6 = .ok (.invokevirtual 335, 3) := dq_182 (a := 1) (b := 79) (fd_r fcJ0_length_8abf5 (by decide +kernel)) rfl
theorem dJ0_length_8abf5_9 : decode cJ0_length_8abf5 9 = .ok (.ishr, 1) := dq_122 (fd_r fcJ0_length_8abf5 (by decide +kernel))
theorem dJ0_length_8abf5_10 : decode cJ0_length_8abf5 10 = .ok (.ireturn, 1) := dq_172 (fd_r fcJ0_length_8abf5 (by decide +kernel))
theorem dJ0_charAt_5068e_0 : decode cJ0_charAt_5068e 0 = .ok (.aload_n 0, 1) := dq_42 (fd_r fcJ0_charAt_5068e (by decide +kernel))
theorem dJ0_charAt_5068e_1 : decode cJ0_charAt_5068e 1 = .ok (.invokevirtual 492, 3) := dq_182 (a := 1) (b := 236) (fd_r fcJ0_charAt_5068e (by decide +kernel)) rfl
theorem dJ0_charAt_5068e_4 : decode cJ0_charAt_5068e 4 = .ok (.ifCond .eq 12, 3) := dq_153 (a := 0) (b := 12) (fd_r fcJ0_charAt_5068e (by decide +kernel)) rfl
theorem dJ0_charAt_5068e_7 : decode cJ0_charAt_5068e 7 = .ok (.aload_n 0, 1) := dq_42 (fd_r fcJ0_charAt_5068e (by decide +kernel))
theorem dJ0_charAt_5068e_8 : decode cJ0_charAt_5068e 8 = .ok (.getfield 9, 3) := dq_180 (a := 0) (b := 9) (fd_r fcJ0_charAt_5068e (by decide +kernel)) rfl
theorem dJ0_charAt_5068e_11 : decode cJ0_charAt_5068e 11 = .ok (.iload_n 1, 1) := dq_27 (fd_r fcJ0_charAt_5068e (by decide +kernel))
theorem dJ0_charAt_5068e_12 : decode cJ0_charAt_5068e 12 = .ok (.invokestatic 495, 3) := dq_184 (a := 1) (b := 239) (fd_r fcJ0_charAt_5068e (by decide +kernel)) rfl
theorem dJ0_charAt_5068e_15 : decode cJ0_charAt_5068e 15 = .ok (.ireturn, 1) := dq_172 (fd_r fcJ0_charAt_5068e (by decide +kernel))
theorem dJ0_coder_7d493_0 : decode cJ0_coder_7d493 0 = .ok (.getstatic 38, 3) := dq_178 (a := 0) (b := 38) (fd_r fcJ0_coder_7d493 (by decide +kernel)) rfl
theorem dJ0_coder_7d493_3 : decode cJ0_coder_7d493 3 = .ok (.ifCond .eq 10, 3) := dq_153 (a := 0) (b := 10) (fd_r fcJ0_coder_7d493 (by decide +kernel)) rfl
theorem dJ0_coder_7d493_6 : decode cJ0_coder_7d493 6 = .ok (.aload_n 0, 1) := dq_42 (fd_r fcJ0_coder_7d493 (by decide +kernel))
theorem dJ0_coder_7d493_7 : decode cJ0_coder_7d493 7 = .ok (.getfield 15, 3) := dq_180 (a := 0) (b := 15) (fd_r fcJ0_coder_7d493 (by decide +kernel)) rfl
theorem dJ0_coder_7d493_10 : decode cJ0_coder_7d493 10 = .ok (.goto 4, 3) := dq_167 (a := 0) (b := 4) (fd_r fcJ0_coder_7d493 (by decide +kernel)) rfl
theorem dJ0_coder_7d493_14 : decode cJ0_coder_7d493 14 = .ok (.ireturn, 1) := dq_172 (fd_r fcJ0_coder_7d493 (by decide +kernel))
theorem dJ0_isLatin1_aae02_0 : decode cJ0_isLatin1_aae02 0 = .ok (.getstatic 38, 3) := dq_178 (a := 0) (b := 38) (fd_r fcJ0_isLatin1_aae02 (by decide +kernel)) rfl
theorem dJ0_isLatin1_aae02_3 : decode cJ0_isLatin1_aae02 3 = .ok (.ifCond .eq 14, 3) := dq_153 (a := 0) (b := 14) (fd_r fcJ0_isLatin1_aae02 (by decide +kernel)) rfl
theorem dJ0_isLatin1_aae02_6 : decode cJ0_isLatin1_aae02 6 = .ok (.aload_n 0, 1) := dq_42 (fd_r fcJ0_isLatin1_aae02 (by decide +kernel))
theorem dJ0_isLatin1_aae02_7 : decode cJ0_isLatin1_aae02 7 = .ok (.getfield 15, 3) := dq_180 (a := 0) (b := 15) (fd_r fcJ0_isLatin1_aae02 (by decide +kernel)) rfl
theorem dJ0_isLatin1_aae02_10 : decode cJ0_isLatin1_aae02 10 = .ok (.ifCond .ne 7, 3) := dq_154 (a := 0) (b := 7) (fd_r fcJ0_isLatin1_aae02 (by decide +kernel)) rfl
theorem dJ0_isLatin1_aae02_13 : decode cJ0_isLatin1_aae02 13 = .ok (.iconst 1, 1) := dq_4 (fd_r fcJ0_isLatin1_aae02 (by decide +kernel))
theorem dJ0_isLatin1_aae02_14 : decode cJ0_isLatin1_aae02 14 = .ok (.goto 4, 3) := dq_167 (a := 0) (b := 4) (fd_r fcJ0_isLatin1_aae02 (by decide +kernel)) rfl
theorem dJ0_isLatin1_aae02_18 : decode cJ0_isLatin1_aae02 18 = .ok (.ireturn, 1) := dq_172 (fd_r fcJ0_isLatin1_aae02 (by decide +kernel))
theorem dJ0_checkIndex_df160_0 : decode cJ0_checkIndex_df160 0 = .ok (.iload_n 0, 1) := dq_26 (fd_r fcJ0_checkIndex_df160 (by decide +kernel))
theorem dJ0_checkIndex_df160_1 : decode cJ0_checkIndex_df160 1 = .ok (.iload_n 1, 1) := dq_27 (fd_r fcJ0_checkIndex_df160 (by decide +kernel))
theorem dJ0_checkIndex_df160_2 : decode cJ0_checkIndex_df160 2 = .ok (.getstatic 1053, 3) := dq_178 (a := 4) (b := 29) (fd_r fcJ0_checkIndex_df160 (by decide +kernel)) rfl
theorem dJ0_checkIndex_df160_5 : decode cJ0_checkIndex_df160 5 = .ok (.invokestatic 1059, 3) := dq_184 (a := 4) (b := 35) (fd_r fcJ0_checkIndex_df160 (by decide +kernel)) rfl
theorem dJ0_checkIndex_df160_8 : decode cJ0_checkIndex_df160 8 = .ok (.pop, 1) := dq_87 (fd_r fcJ0_checkIndex_df160 (by decide +kernel))
theorem dJ0_checkIndex_df160_9 : decode cJ0_checkIndex_df160 9 = .ok (.return_, 1) := dq_177 (fd_r fcJ0_checkIndex_df160 (by decide +kernel))
theorem dJ1_charAt_3b067_0 : decode cJ1_charAt_3b067 0 = .ok (.iload_n 1, 1) := dq_27 (fd_r fcJ1_charAt_3b067 (by decide +kernel))
theorem dJ1_charAt_3b067_1 : decode cJ1_charAt_3b067 1 = .ok (.aload_n 0, 1) := dq_42 (fd_r fcJ1_charAt_3b067 (by decide +kernel))
theorem dJ1_charAt_3b067_2 : decode cJ1_charAt_3b067 2 = .ok (.arraylength, 1) := dq_190 (fd_r fcJ1_charAt_3b067 (by decide +kernel))
theorem dJ1_charAt_3b067_3 : decode cJ1_charAt_3b067 3 = .ok (.invokestatic 9, 3) := dq_184 (a := 0) (b := 9) (fd_r fcJ1_charAt_3b067 (by decide +kernel)) rfl
theorem dJ1_charAt_3b067_6 : decode cJ1_charAt_3b067 6 = .ok (.aload_n 0, 1) := dq_42 (fd_r fcJ1_charAt_3b067 (by decide +kernel))
theorem dJ1_charAt_3b067_7 : decode cJ1_charAt_3b067 7 = .ok (.iload_n 1, 1) := dq_27 (fd_r fcJ1_charAt_3b067 (by decide +kernel))
theorem dJ1_charAt_3b067_8 : decode cJ1_charAt_3b067 8 = .ok (.baload, 1) := dq_51 (fd_r fcJ1_charAt_3b067 (by decide +kernel))
theorem dJ1_charAt_3b067_9 : decode cJ1_charAt_3b067 9 = .ok (.sipush 255, 3) := dq_17 (a := 0) (b := 255) (fd_r fcJ1_charAt_3b067 (by decide +kernel)) rfl
theorem dJ1_charAt_3b067_12 : decode cJ1_charAt_3b067 12 = .ok (.iand, 1) := dq_126 (fd_r fcJ1_charAt_3b067 (by decide +kernel))
theorem dJ1_charAt_3b067_13 : decode cJ1_charAt_3b067 13 = .ok (.i2c, 1) := dq_146 (fd_r fcJ1_charAt_3b067 (by decide +kernel))
theorem dJ1_charAt_3b067_14 : decode cJ1_charAt_3b067 14 = .ok (.ireturn, 1) := dq_172 (fd_r fcJ1_charAt_3b067 (by decide +kernel))
theorem dJ3_checkIndex_8e157_0 : decode cJ3_checkIndex_8e157 0 = .ok (.iload_n 0, 1) := dq_26 (fd_r fcJ3_checkIndex_8e157 (by decide +kernel))
theorem dJ3_checkIndex_8e157_1 : decode cJ3_checkIndex_8e157 1 = .ok (.ifCond .lt 8, 3) := dq_155 (a := 0) (b := 8) (fd_r fcJ3_checkIndex_8e157 (by decide +kernel)) rfl
theorem dJ3_checkIndex_8e157_4 : decode cJ3_checkIndex_8e157 4 = .ok (.iload_n 0, 1) := dq_26 (fd_r fcJ3_checkIndex_8e157 (by decide +kernel))
theorem dJ3_checkIndex_8e157_5 : decode cJ3_checkIndex_8e157 5 = .ok (.iload_n 1, 1) := dq_27 (fd_r fcJ3_checkIndex_8e157 (by decide +kernel))
theorem dJ3_checkIndex_8e157_6 : decode cJ3_checkIndex_8e157 6 = .ok (.if_icmp .lt 10, 3) := dq_161 (a := 0) (b := 10) (fd_r fcJ3_checkIndex_8e157 (by decide +kernel)) rfl
theorem dJ3_checkIndex_8e157_16 : decode cJ3_checkIndex_8e157 16 = .ok (.iload_n 0, 1) := dq_26 (fd_r fcJ3_checkIndex_8e157 (by decide +kernel))
theorem dJ3_checkIndex_8e157_17 : decode cJ3_checkIndex_8e157 17 = .ok (.ireturn, 1) := dq_172 (fd_r fcJ3_checkIndex_8e157 (by decide +kernel))
end
end
section
section
theorem dL_law_0 : decode cL_law 0 = .ok (.new 7, 3) := dq_187 (a := 0) (b := 7) (fd_r fcL_law (by decide +kernel)) rfl
theorem dL_law_3 : decode cL_law 3 = .ok (.dup, 1) := dq_89 (fd_r fcL_law (by decide +kernel))
theorem dL_law_4 : decode cL_law 4 = .ok (.invokespecial 9, 3) := dq_183 (a := 0) (b := 9) (fd_r fcL_law (by decide +kernel)) rfl
theorem dL_law_7 : decode cL_law 7 = .ok (.astore_n 1, 1) := dq_76 (fd_r fcL_law (by decide +kernel))
theorem dL_law_8 : decode cL_law 8 = .ok (.new 10, 3) := dq_187 (a := 0) (b := 10) (fd_r fcL_law (by decide +kernel)) rfl
theorem dL_law_11 : decode cL_law 11 = .ok (.dup, 1) := dq_89 (fd_r fcL_law (by decide +kernel))
theorem dL_law_12 : decode cL_law 12 = .ok (.invokespecial 12, 3) := dq_183 (a := 0) (b := 12) (fd_r fcL_law (by decide +kernel)) rfl
theorem dL_law_15 : decode cL_law 15 = .ok (.astore_n 2, 1) := dq_77 (fd_r fcL_law (by decide +kernel))
theorem dL_law_16 : decode cL_law 16 = .ok (.iconst 0, 1) := dq_3 (fd_r fcL_law (by decide +kernel))
theorem dL_law_17 : decode cL_law 17 = .ok (.istore_n 3, 1) := dq_62 (fd_r fcL_law (by decide +kernel))
theorem dL_law_18 : decode cL_law 18 = .ok (.iload_n 3, 1) := dq_29 (fd_r fcL_law (by decide +kernel))
theorem dL_law_19 : decode cL_law 19 = .ok (.aload_n 0, 1) := dq_42 (fd_r fcL_law (by decide +kernel))
theorem dL_law_20 : decode cL_law 20 = .ok (.arraylength, 1) := dq_190 (fd_r fcL_law (by decide +kernel))
theorem dL_law_21 : decode cL_law 21 = .ok (.bipush 6, 2) := dq_16 (a := 6) (fd_r fcL_law (by decide +kernel)) rfl
theorem dL_law_23 : decode cL_law 23 = .ok (.isub, 1) := dq_100 (fd_r fcL_law (by decide +kernel))
theorem dL_law_24 : decode cL_law 24 = .ok (.if_icmp .gt 1075, 3) := dq_163 (a := 4) (b := 51) (fd_r fcL_law (by decide +kernel)) rfl
theorem dL_law_27 : decode cL_law 27 = .ok (.aload_n 0, 1) := dq_42 (fd_r fcL_law (by decide +kernel))
theorem dL_law_28 : decode cL_law 28 = .ok (.iload_n 3, 1) := dq_29 (fd_r fcL_law (by decide +kernel))
theorem dL_law_29 : decode cL_law 29 = .ok (.iaload, 1) := dq_46 (fd_r fcL_law (by decide +kernel))
theorem dL_law_30 : decode cL_law 30 = .ok (.bipush 63, 2) := dq_16 (a := 63) (fd_r fcL_law (by decide +kernel)) rfl
theorem dL_law_32 : decode cL_law 32 = .ok (.iand, 1) := dq_126 (fd_r fcL_law (by decide +kernel))
theorem dL_law_33 : decode cL_law 33 = .ok (.tableswitch 1060 0 34 #[155, 218, 241, 254, 277, 300, 343, 366, 399, 442, 475, 498, 521, 534, 557, 580, 613, 636, 679, 712, 735, 748, 771, 794, 817, 840, 873, 896, 919, 942, 955, 978, 1011, 1024, 1037], 155) := by decide +kernel
theorem dL_law_188 : decode cL_law 188 = .ok (.aload_n 1, 1) := dq_43 (fd_r fcL_law (by decide +kernel))
theorem dL_law_189 : decode cL_law 189 = .ok (.aload_n 0, 1) := dq_42 (fd_r fcL_law (by decide +kernel))
theorem dL_law_190 : decode cL_law 190 = .ok (.iload_n 3, 1) := dq_29 (fd_r fcL_law (by decide +kernel))
theorem dL_law_191 : decode cL_law 191 = .ok (.iconst 1, 1) := dq_4 (fd_r fcL_law (by decide +kernel))
theorem dL_law_192 : decode cL_law 192 = .ok (.iadd, 1) := dq_96 (fd_r fcL_law (by decide +kernel))
theorem dL_law_193 : decode cL_law 193 = .ok (.iaload, 1) := dq_46 (fd_r fcL_law (by decide +kernel))
theorem dL_law_194 : decode cL_law 194 = .ok (.aload_n 0, 1) := dq_42 (fd_r fcL_law (by decide +kernel))
theorem dL_law_195 : decode cL_law 195 = .ok (.iload_n 3, 1) := dq_29 (fd_r fcL_law (by decide +kernel))
theorem dL_law_196 : decode cL_law 196 = .ok (.iconst 2, 1) := dq_5 (fd_r fcL_law (by decide +kernel))
theorem dL_law_197 : decode cL_law 197 = .ok (.iadd, 1) := dq_96 (fd_r fcL_law (by decide +kernel))
theorem dL_law_198 : decode cL_law 198 = .ok (.iaload, 1) := dq_46 (fd_r fcL_law (by decide +kernel))
theorem dL_law_199 : decode cL_law 199 = .ok (.aload_n 0, 1) := dq_42 (fd_r fcL_law (by decide +kernel))
theorem dL_law_200 : decode cL_law 200 = .ok (.iload_n 3, 1) := dq_29 (fd_r fcL_law (by decide +kernel))
theorem dL_law_201 : decode cL_law 201 = .ok (.iconst 3, 1) := dq_6 (fd_r fcL_law (by decide +kernel))
theorem dL_law_202 : decode cL_law 202 = .ok (.iadd, 1) := dq_96 (fd_r fcL_law (by decide +kernel))
theorem dL_law_203 : decode cL_law 203 = .ok (.iaload, 1) := dq_46 (fd_r fcL_law (by decide +kernel))
theorem dL_law_204 : decode cL_law 204 = .ok (.aload_n 0, 1) := dq_42 (fd_r fcL_law (by decide +kernel))
theorem dL_law_205 : decode cL_law 205 = .ok (.iload_n 3, 1) := dq_29 (fd_r fcL_law (by decide +kernel))
theorem dL_law_206 : decode cL_law 206 = .ok (.iconst 4, 1) := dq_7 (fd_r fcL_law (by decide +kernel))
theorem dL_law_207 : decode cL_law 207 = .ok (.iadd, 1) := dq_96 (fd_r fcL_law (by decide +kernel))
theorem dL_law_208 : decode cL_law 208 = .ok (.iaload, 1) := dq_46 (fd_r fcL_law (by decide +kernel))
theorem dL_law_209 : decode cL_law 209 = .ok (.aload_n 0, 1) := dq_42 (fd_r fcL_law (by decide +kernel))
theorem dL_law_210 : decode cL_law 210 = .ok (.iload_n 3, 1) := dq_29 (fd_r fcL_law (by decide +kernel))
theorem dL_law_211 : decode cL_law 211 = .ok (.iconst 5, 1) := dq_8 (fd_r fcL_law (by decide +kernel))
theorem dL_law_212 : decode cL_law 212 = .ok (.iadd, 1) := dq_96 (fd_r fcL_law (by decide +kernel))
theorem dL_law_213 : decode cL_law 213 = .ok (.iaload, 1) := dq_46 (fd_r fcL_law (by decide +kernel))
theorem dL_law_214 : decode cL_law 214 = .ok (.invokevirtual 13, 3) := dq_182 (a := 0) (b := 13) (fd_r fcL_law (by decide +kernel)) rfl
theorem dL_law_217 : decode cL_law 217 = .ok (.pop, 1) := dq_87 (fd_r fcL_law (by decide +kernel))
theorem dL_law_218 : decode cL_law 218 = .ok (.aload_n 2, 1) := dq_44 (fd_r fcL_law (by decide +kernel))
theorem dL_law_219 : decode cL_law 219 = .ok (.aload_n 0, 1) := dq_42 (fd_r fcL_law (by decide +kernel))
theorem dL_law_220 : decode cL_law 220 = .ok (.iload_n 3, 1) := dq_29 (fd_r fcL_law (by decide +kernel))
theorem dL_law_221 : decode cL_law 221 = .ok (.iconst 1, 1) := dq_4 (fd_r fcL_law (by decide +kernel))
theorem dL_law_222 : decode cL_law 222 = .ok (.iadd, 1) := dq_96 (fd_r fcL_law (by decide +kernel))
theorem dL_law_223 : decode cL_law 223 = .ok (.iaload, 1) := dq_46 (fd_r fcL_law (by decide +kernel))
theorem dL_law_224 : decode cL_law 224 = .ok (.aload_n 0, 1) := dq_42 (fd_r fcL_law (by decide +kernel))
theorem dL_law_225 : decode cL_law 225 = .ok (.iload_n 3, 1) := dq_29 (fd_r fcL_law (by decide +kernel))
theorem dL_law_226 : decode cL_law 226 = .ok (.iconst 2, 1) := dq_5 (fd_r fcL_law (by decide +kernel))
theorem dL_law_227 : decode cL_law 227 = .ok (.iadd, 1) := dq_96 (fd_r fcL_law (by decide +kernel))
theorem dL_law_228 : decode cL_law 228 = .ok (.iaload, 1) := dq_46 (fd_r fcL_law (by decide +kernel))
theorem dL_law_229 : decode cL_law 229 = .ok (.aload_n 0, 1) := dq_42 (fd_r fcL_law (by decide +kernel))
theorem dL_law_230 : decode cL_law 230 = .ok (.iload_n 3, 1) := dq_29 (fd_r fcL_law (by decide +kernel))
theorem dL_law_231 : decode cL_law 231 = .ok (.iconst 3, 1) := dq_6 (fd_r fcL_law (by decide +kernel))
theorem dL_law_232 : decode cL_law 232 = .ok (.iadd, 1) := dq_96 (fd_r fcL_law (by decide +kernel))
theorem dL_law_233 : decode cL_law 233 = .ok (.iaload, 1) := dq_46 (fd_r fcL_law (by decide +kernel))
theorem dL_law_234 : decode cL_law 234 = .ok (.aload_n 0, 1) := dq_42 (fd_r fcL_law (by decide +kernel))
theorem dL_law_235 : decode cL_law 235 = .ok (.iload_n 3, 1) := dq_29 (fd_r fcL_law (by decide +kernel))
theorem dL_law_236 : decode cL_law 236 = .ok (.iconst 4, 1) := dq_7 (fd_r fcL_law (by decide +kernel))
theorem dL_law_237 : decode cL_law 237 = .ok (.iadd, 1) := dq_96 (fd_r fcL_law (by decide +kernel))
theorem dL_law_238 : decode cL_law 238 = .ok (.iaload, 1) := dq_46 (fd_r fcL_law (by decide +kernel))
theorem dL_law_239 : decode cL_law 239 = .ok (.aload_n 0, 1) := dq_42 (fd_r fcL_law (by decide +kernel))
theorem dL_law_240 : decode cL_law 240 = .ok (.iload_n 3, 1) := dq_29 (fd_r fcL_law (by decide +kernel))
theorem dL_law_241 : decode cL_law 241 = .ok (.iconst 5, 1) := dq_8 (fd_r fcL_law (by decide +kernel))
theorem dL_law_242 : decode cL_law 242 = .ok (.iadd, 1) := dq_96 (fd_r fcL_law (by decide +kernel))
theorem dL_law_243 : decode cL_law 243 = .ok (.iaload, 1) := dq_46 (fd_r fcL_law (by decide +kernel))
theorem dL_law_244 : decode cL_law 244 = .ok (.invokevirtual 17, 3) := dq_182 (a := 0) (b := 17) (fd_r fcL_law (by decide +kernel)) rfl
theorem dL_law_247 : decode cL_law 247 = .ok (.pop, 1) := dq_87 (fd_r fcL_law (by decide +kernel))
theorem dL_law_248 : decode cL_law 248 = .ok (.goto 845, 3) := dq_167 (a := 3) (b := 77) (fd_r fcL_law (by decide +kernel)) rfl
theorem dL_law_251 : decode cL_law 251 = .ok (.aload_n 1, 1) := dq_43 (fd_r fcL_law (by decide +kernel))
theorem dL_law_252 : decode cL_law 252 = .ok (.aload_n 0, 1) := dq_42 (fd_r fcL_law (by decide +kernel))
theorem dL_law_253 : decode cL_law 253 = .ok (.iload_n 3, 1) := dq_29 (fd_r fcL_law (by decide +kernel))
theorem dL_law_254 : decode cL_law 254 = .ok (.iconst 1, 1) := dq_4 (fd_r fcL_law (by decide +kernel))
theorem dL_law_255 : decode cL_law 255 = .ok (.iadd, 1) := dq_96 (fd_r fcL_law (by decide +kernel))
theorem dL_law_256 : decode cL_law 256 = .ok (.iaload, 1) := dq_46 (fd_r fcL_law (by decide +kernel))
theorem dL_law_257 : decode cL_law 257 = .ok (.invokevirtual 18, 3) := dq_182 (a := 0) (b := 18) (fd_r fcL_law (by decide +kernel)) rfl
theorem dL_law_260 : decode cL_law 260 = .ok (.pop, 1) := dq_87 (fd_r fcL_law (by decide +kernel))
theorem dL_law_261 : decode cL_law 261 = .ok (.aload_n 2, 1) := dq_44 (fd_r fcL_law (by decide +kernel))
theorem dL_law_262 : decode cL_law 262 = .ok (.aload_n 0, 1) := dq_42 (fd_r fcL_law (by decide +kernel))
theorem dL_law_263 : decode cL_law 263 = .ok (.iload_n 3, 1) := dq_29 (fd_r fcL_law (by decide +kernel))
theorem dL_law_264 : decode cL_law 264 = .ok (.iconst 1, 1) := dq_4 (fd_r fcL_law (by decide +kernel))
theorem dL_law_265 : decode cL_law 265 = .ok (.iadd, 1) := dq_96 (fd_r fcL_law (by decide +kernel))
theorem dL_law_266 : decode cL_law 266 = .ok (.iaload, 1) := dq_46 (fd_r fcL_law (by decide +kernel))
theorem dL_law_267 : decode cL_law 267 = .ok (.invokevirtual 22, 3) := dq_182 (a := 0) (b := 22) (fd_r fcL_law (by decide +kernel)) rfl
theorem dL_law_270 : decode cL_law 270 = .ok (.pop, 1) := dq_87 (fd_r fcL_law (by decide +kernel))
theorem dL_law_271 : decode cL_law 271 = .ok (.goto 822, 3) := dq_167 (a := 3) (b := 54) (fd_r fcL_law (by decide +kernel)) rfl
theorem dL_law_274 : decode cL_law 274 = .ok (.aload_n 1, 1) := dq_43 (fd_r fcL_law (by decide +kernel))
theorem dL_law_275 : decode cL_law 275 = .ok (.invokevirtual 23, 3) := dq_182 (a := 0) (b := 23) (fd_r fcL_law (by decide +kernel)) rfl
theorem dL_law_278 : decode cL_law 278 = .ok (.pop, 1) := dq_87 (fd_r fcL_law (by decide +kernel))
theorem dL_law_279 : decode cL_law 279 = .ok (.aload_n 2, 1) := dq_44 (fd_r fcL_law (by decide +kernel))
theorem dL_law_280 : decode cL_law 280 = .ok (.invokevirtual 27, 3) := dq_182 (a := 0) (b := 27) (fd_r fcL_law (by decide +kernel)) rfl
theorem dL_law_283 : decode cL_law 283 = .ok (.pop, 1) := dq_87 (fd_r fcL_law (by decide +kernel))
theorem dL_law_284 : decode cL_law 284 = .ok (.goto 809, 3) := dq_167 (a := 3) (b := 41) (fd_r fcL_law (by decide +kernel)) rfl
theorem dL_law_287 : decode cL_law 287 = .ok (.aload_n 1, 1) := dq_43 (fd_r fcL_law (by decide +kernel))
theorem dL_law_288 : decode cL_law 288 = .ok (.aload_n 0, 1) := dq_42 (fd_r fcL_law (by decide +kernel))
theorem dL_law_289 : decode cL_law 289 = .ok (.iload_n 3, 1) := dq_29 (fd_r fcL_law (by decide +kernel))
theorem dL_law_290 : decode cL_law 290 = .ok (.iconst 1, 1) := dq_4 (fd_r fcL_law (by decide +kernel))
theorem dL_law_291 : decode cL_law 291 = .ok (.iadd, 1) := dq_96 (fd_r fcL_law (by decide +kernel))
theorem dL_law_292 : decode cL_law 292 = .ok (.iaload, 1) := dq_46 (fd_r fcL_law (by decide +kernel))
theorem dL_law_293 : decode cL_law 293 = .ok (.invokevirtual 28, 3) := dq_182 (a := 0) (b := 28) (fd_r fcL_law (by decide +kernel)) rfl
theorem dL_law_296 : decode cL_law 296 = .ok (.pop, 1) := dq_87 (fd_r fcL_law (by decide +kernel))
theorem dL_law_297 : decode cL_law 297 = .ok (.aload_n 2, 1) := dq_44 (fd_r fcL_law (by decide +kernel))
theorem dL_law_298 : decode cL_law 298 = .ok (.aload_n 0, 1) := dq_42 (fd_r fcL_law (by decide +kernel))
theorem dL_law_299 : decode cL_law 299 = .ok (.iload_n 3, 1) := dq_29 (fd_r fcL_law (by decide +kernel))
theorem dL_law_300 : decode cL_law 300 = .ok (.iconst 1, 1) := dq_4 (fd_r fcL_law (by decide +kernel))
theorem dL_law_301 : decode cL_law 301 = .ok (.iadd, 1) := dq_96 (fd_r fcL_law (by decide +kernel))
theorem dL_law_302 : decode cL_law 302 = .ok (.iaload, 1) := dq_46 (fd_r fcL_law (by decide +kernel))
theorem dL_law_303 : decode cL_law 303 = .ok (.invokevirtual 32, 3) := dq_182 (a := 0) (b := 32) (fd_r fcL_law (by decide +kernel)) rfl
theorem dL_law_306 : decode cL_law 306 = .ok (.pop, 1) := dq_87 (fd_r fcL_law (by decide +kernel))
theorem dL_law_307 : decode cL_law 307 = .ok (.goto 786, 3) := dq_167 (a := 3) (b := 18) (fd_r fcL_law (by decide +kernel)) rfl
theorem dL_law_310 : decode cL_law 310 = .ok (.aload_n 1, 1) := dq_43 (fd_r fcL_law (by decide +kernel))
theorem dL_law_311 : decode cL_law 311 = .ok (.aload_n 0, 1) := dq_42 (fd_r fcL_law (by decide +kernel))
theorem dL_law_312 : decode cL_law 312 = .ok (.iload_n 3, 1) := dq_29 (fd_r fcL_law (by decide +kernel))
theorem dL_law_313 : decode cL_law 313 = .ok (.iconst 1, 1) := dq_4 (fd_r fcL_law (by decide +kernel))
theorem dL_law_314 : decode cL_law 314 = .ok (.iadd, 1) := dq_96 (fd_r fcL_law (by decide +kernel))
theorem dL_law_315 : decode cL_law 315 = .ok (.iaload, 1) := dq_46 (fd_r fcL_law (by decide +kernel))
theorem dL_law_316 : decode cL_law 316 = .ok (.invokevirtual 33, 3) := dq_182 (a := 0) (b := 33) (fd_r fcL_law (by decide +kernel)) rfl
theorem dL_law_319 : decode cL_law 319 = .ok (.pop, 1) := dq_87 (fd_r fcL_law (by decide +kernel))
theorem dL_law_320 : decode cL_law 320 = .ok (.aload_n 2, 1) := dq_44 (fd_r fcL_law (by decide +kernel))
theorem dL_law_321 : decode cL_law 321 = .ok (.aload_n 0, 1) := dq_42 (fd_r fcL_law (by decide +kernel))
theorem dL_law_322 : decode cL_law 322 = .ok (.iload_n 3, 1) := dq_29 (fd_r fcL_law (by decide +kernel))
theorem dL_law_323 : decode cL_law 323 = .ok (.iconst 1, 1) := dq_4 (fd_r fcL_law (by decide +kernel))
theorem dL_law_324 : decode cL_law 324 = .ok (.iadd, 1) := dq_96 (fd_r fcL_law (by decide +kernel))
theorem dL_law_325 : decode cL_law 325 = .ok (.iaload, 1) := dq_46 (fd_r fcL_law (by decide +kernel))
theorem dL_law_326 : decode cL_law 326 = .ok (.invokevirtual 36, 3) := dq_182 (a := 0) (b := 36) (fd_r fcL_law (by decide +kernel)) rfl
theorem dL_law_329 : decode cL_law 329 = .ok (.pop, 1) := dq_87 (fd_r fcL_law (by decide +kernel))
theorem dL_law_330 : decode cL_law 330 = .ok (.goto 763, 3) := dq_167 (a := 2) (b := 251) (fd_r fcL_law (by decide +kernel)) rfl
theorem dL_law_333 : decode cL_law 333 = .ok (.aload_n 1, 1) := dq_43 (fd_r fcL_law (by decide +kernel))
theorem dL_law_334 : decode cL_law 334 = .ok (.aload_n 0, 1) := dq_42 (fd_r fcL_law (by decide +kernel))
theorem dL_law_335 : decode cL_law 335 = .ok (.iload_n 3, 1) := dq_29 (fd_r fcL_law (by decide +kernel))
theorem dL_law_336 : decode cL_law 336 = .ok (.iconst 1, 1) := dq_4 (fd_r fcL_law (by decide +kernel))
theorem dL_law_337 : decode cL_law 337 = .ok (.iadd, 1) := dq_96 (fd_r fcL_law (by decide +kernel))
theorem dL_law_338 : decode cL_law 338 = .ok (.iaload, 1) := dq_46 (fd_r fcL_law (by decide +kernel))
theorem dL_law_339 : decode cL_law 339 = .ok (.aload_n 0, 1) := dq_42 (fd_r fcL_law (by decide +kernel))
theorem dL_law_340 : decode cL_law 340 = .ok (.iload_n 3, 1) := dq_29 (fd_r fcL_law (by decide +kernel))
theorem dL_law_341 : decode cL_law 341 = .ok (.iconst 2, 1) := dq_5 (fd_r fcL_law (by decide +kernel))
theorem dL_law_342 : decode cL_law 342 = .ok (.iadd, 1) := dq_96 (fd_r fcL_law (by decide +kernel))
theorem dL_law_343 : decode cL_law 343 = .ok (.iaload, 1) := dq_46 (fd_r fcL_law (by decide +kernel))
theorem dL_law_344 : decode cL_law 344 = .ok (.aload_n 0, 1) := dq_42 (fd_r fcL_law (by decide +kernel))
theorem dL_law_345 : decode cL_law 345 = .ok (.iload_n 3, 1) := dq_29 (fd_r fcL_law (by decide +kernel))
theorem dL_law_346 : decode cL_law 346 = .ok (.iconst 3, 1) := dq_6 (fd_r fcL_law (by decide +kernel))
theorem dL_law_347 : decode cL_law 347 = .ok (.iadd, 1) := dq_96 (fd_r fcL_law (by decide +kernel))
theorem dL_law_348 : decode cL_law 348 = .ok (.iaload, 1) := dq_46 (fd_r fcL_law (by decide +kernel))
theorem dL_law_349 : decode cL_law 349 = .ok (.invokevirtual 37, 3) := dq_182 (a := 0) (b := 37) (fd_r fcL_law (by decide +kernel)) rfl
theorem dL_law_352 : decode cL_law 352 = .ok (.pop, 1) := dq_87 (fd_r fcL_law (by decide +kernel))
theorem dL_law_353 : decode cL_law 353 = .ok (.aload_n 2, 1) := dq_44 (fd_r fcL_law (by decide +kernel))
theorem dL_law_354 : decode cL_law 354 = .ok (.aload_n 0, 1) := dq_42 (fd_r fcL_law (by decide +kernel))
theorem dL_law_355 : decode cL_law 355 = .ok (.iload_n 3, 1) := dq_29 (fd_r fcL_law (by decide +kernel))
theorem dL_law_356 : decode cL_law 356 = .ok (.iconst 1, 1) := dq_4 (fd_r fcL_law (by decide +kernel))
theorem dL_law_357 : decode cL_law 357 = .ok (.iadd, 1) := dq_96 (fd_r fcL_law (by decide +kernel))
theorem dL_law_358 : decode cL_law 358 = .ok (.iaload, 1) := dq_46 (fd_r fcL_law (by decide +kernel))
theorem dL_law_359 : decode cL_law 359 = .ok (.aload_n 0, 1) := dq_42 (fd_r fcL_law (by decide +kernel))
theorem dL_law_360 : decode cL_law 360 = .ok (.iload_n 3, 1) := dq_29 (fd_r fcL_law (by decide +kernel))
theorem dL_law_361 : decode cL_law 361 = .ok (.iconst 2, 1) := dq_5 (fd_r fcL_law (by decide +kernel))
theorem dL_law_362 : decode cL_law 362 = .ok (.iadd, 1) := dq_96 (fd_r fcL_law (by decide +kernel))
theorem dL_law_363 : decode cL_law 363 = .ok (.iaload, 1) := dq_46 (fd_r fcL_law (by decide +kernel))
theorem dL_law_364 : decode cL_law 364 = .ok (.aload_n 0, 1) := dq_42 (fd_r fcL_law (by decide +kernel))
theorem dL_law_365 : decode cL_law 365 = .ok (.iload_n 3, 1) := dq_29 (fd_r fcL_law (by decide +kernel))
theorem dL_law_366 : decode cL_law 366 = .ok (.iconst 3, 1) := dq_6 (fd_r fcL_law (by decide +kernel))
theorem dL_law_367 : decode cL_law 367 = .ok (.iadd, 1) := dq_96 (fd_r fcL_law (by decide +kernel))
theorem dL_law_368 : decode cL_law 368 = .ok (.iaload, 1) := dq_46 (fd_r fcL_law (by decide +kernel))
theorem dL_law_369 : decode cL_law 369 = .ok (.invokevirtual 41, 3) := dq_182 (a := 0) (b := 41) (fd_r fcL_law (by decide +kernel)) rfl
theorem dL_law_372 : decode cL_law 372 = .ok (.pop, 1) := dq_87 (fd_r fcL_law (by decide +kernel))
theorem dL_law_373 : decode cL_law 373 = .ok (.goto 720, 3) := dq_167 (a := 2) (b := 208) (fd_r fcL_law (by decide +kernel)) rfl
theorem dL_law_376 : decode cL_law 376 = .ok (.aload_n 1, 1) := dq_43 (fd_r fcL_law (by decide +kernel))
theorem dL_law_377 : decode cL_law 377 = .ok (.aload_n 0, 1) := dq_42 (fd_r fcL_law (by decide +kernel))
theorem dL_law_378 : decode cL_law 378 = .ok (.iload_n 3, 1) := dq_29 (fd_r fcL_law (by decide +kernel))
theorem dL_law_379 : decode cL_law 379 = .ok (.iconst 1, 1) := dq_4 (fd_r fcL_law (by decide +kernel))
theorem dL_law_380 : decode cL_law 380 = .ok (.iadd, 1) := dq_96 (fd_r fcL_law (by decide +kernel))
theorem dL_law_381 : decode cL_law 381 = .ok (.iaload, 1) := dq_46 (fd_r fcL_law (by decide +kernel))
theorem dL_law_382 : decode cL_law 382 = .ok (.invokevirtual 42, 3) := dq_182 (a := 0) (b := 42) (fd_r fcL_law (by decide +kernel)) rfl
theorem dL_law_385 : decode cL_law 385 = .ok (.pop, 1) := dq_87 (fd_r fcL_law (by decide +kernel))
theorem dL_law_386 : decode cL_law 386 = .ok (.aload_n 2, 1) := dq_44 (fd_r fcL_law (by decide +kernel))
theorem dL_law_387 : decode cL_law 387 = .ok (.aload_n 0, 1) := dq_42 (fd_r fcL_law (by decide +kernel))
theorem dL_law_388 : decode cL_law 388 = .ok (.iload_n 3, 1) := dq_29 (fd_r fcL_law (by decide +kernel))
theorem dL_law_389 : decode cL_law 389 = .ok (.iconst 1, 1) := dq_4 (fd_r fcL_law (by decide +kernel))
theorem dL_law_390 : decode cL_law 390 = .ok (.iadd, 1) := dq_96 (fd_r fcL_law (by decide +kernel))
theorem dL_law_391 : decode cL_law 391 = .ok (.iaload, 1) := dq_46 (fd_r fcL_law (by decide +kernel))
theorem dL_law_392 : decode cL_law 392 = .ok (.invokevirtual 45, 3) := dq_182 (a := 0) (b := 45) (fd_r fcL_law (by decide +kernel)) rfl
theorem dL_law_395 : decode cL_law 395 = .ok (.pop, 1) := dq_87 (fd_r fcL_law (by decide +kernel))
theorem dL_law_396 : decode cL_law 396 = .ok (.goto 697, 3) := dq_167 (a := 2) (b := 185) (fd_r fcL_law (by decide +kernel)) rfl
theorem dL_law_399 : decode cL_law 399 = .ok (.aload_n 1, 1) := dq_43 (fd_r fcL_law (by decide +kernel))
theorem dL_law_400 : decode cL_law 400 = .ok (.aload_n 0, 1) := dq_42 (fd_r fcL_law (by decide +kernel))
theorem dL_law_401 : decode cL_law 401 = .ok (.iload_n 3, 1) := dq_29 (fd_r fcL_law (by decide +kernel))
theorem dL_law_402 : decode cL_law 402 = .ok (.iconst 1, 1) := dq_4 (fd_r fcL_law (by decide +kernel))
theorem dL_law_403 : decode cL_law 403 = .ok (.iadd, 1) := dq_96 (fd_r fcL_law (by decide +kernel))
theorem dL_law_404 : decode cL_law 404 = .ok (.iaload, 1) := dq_46 (fd_r fcL_law (by decide +kernel))
theorem dL_law_405 : decode cL_law 405 = .ok (.aload_n 0, 1) := dq_42 (fd_r fcL_law (by decide +kernel))
theorem dL_law_406 : decode cL_law 406 = .ok (.iload_n 3, 1) := dq_29 (fd_r fcL_law (by decide +kernel))
theorem dL_law_407 : decode cL_law 407 = .ok (.iconst 2, 1) := dq_5 (fd_r fcL_law (by decide +kernel))
theorem dL_law_408 : decode cL_law 408 = .ok (.iadd, 1) := dq_96 (fd_r fcL_law (by decide +kernel))
theorem dL_law_409 : decode cL_law 409 = .ok (.iaload, 1) := dq_46 (fd_r fcL_law (by decide +kernel))
theorem dL_law_410 : decode cL_law 410 = .ok (.invokevirtual 46, 3) := dq_182 (a := 0) (b := 46) (fd_r fcL_law (by decide +kernel)) rfl
theorem dL_law_413 : decode cL_law 413 = .ok (.pop, 1) := dq_87 (fd_r fcL_law (by decide +kernel))
theorem dL_law_414 : decode cL_law 414 = .ok (.aload_n 2, 1) := dq_44 (fd_r fcL_law (by decide +kernel))
theorem dL_law_415 : decode cL_law 415 = .ok (.aload_n 0, 1) := dq_42 (fd_r fcL_law (by decide +kernel))
theorem dL_law_416 : decode cL_law 416 = .ok (.iload_n 3, 1) := dq_29 (fd_r fcL_law (by decide +kernel))
theorem dL_law_417 : decode cL_law 417 = .ok (.iconst 1, 1) := dq_4 (fd_r fcL_law (by decide +kernel))
theorem dL_law_418 : decode cL_law 418 = .ok (.iadd, 1) := dq_96 (fd_r fcL_law (by decide +kernel))
theorem dL_law_419 : decode cL_law 419 = .ok (.iaload, 1) := dq_46 (fd_r fcL_law (by decide +kernel))
theorem dL_law_420 : decode cL_law 420 = .ok (.aload_n 0, 1) := dq_42 (fd_r fcL_law (by decide +kernel))
theorem dL_law_421 : decode cL_law 421 = .ok (.iload_n 3, 1) := dq_29 (fd_r fcL_law (by decide +kernel))
theorem dL_law_422 : decode cL_law 422 = .ok (.iconst 2, 1) := dq_5 (fd_r fcL_law (by decide +kernel))
theorem dL_law_423 : decode cL_law 423 = .ok (.iadd, 1) := dq_96 (fd_r fcL_law (by decide +kernel))
theorem dL_law_424 : decode cL_law 424 = .ok (.iaload, 1) := dq_46 (fd_r fcL_law (by decide +kernel))
theorem dL_law_425 : decode cL_law 425 = .ok (.invokevirtual 50, 3) := dq_182 (a := 0) (b := 50) (fd_r fcL_law (by decide +kernel)) rfl
theorem dL_law_428 : decode cL_law 428 = .ok (.pop, 1) := dq_87 (fd_r fcL_law (by decide +kernel))
theorem dL_law_429 : decode cL_law 429 = .ok (.goto 664, 3) := dq_167 (a := 2) (b := 152) (fd_r fcL_law (by decide +kernel)) rfl
theorem dL_law_432 : decode cL_law 432 = .ok (.aload_n 1, 1) := dq_43 (fd_r fcL_law (by decide +kernel))
theorem dL_law_433 : decode cL_law 433 = .ok (.aload_n 0, 1) := dq_42 (fd_r fcL_law (by decide +kernel))
theorem dL_law_434 : decode cL_law 434 = .ok (.iload_n 3, 1) := dq_29 (fd_r fcL_law (by decide +kernel))
theorem dL_law_435 : decode cL_law 435 = .ok (.iconst 1, 1) := dq_4 (fd_r fcL_law (by decide +kernel))
theorem dL_law_436 : decode cL_law 436 = .ok (.iadd, 1) := dq_96 (fd_r fcL_law (by decide +kernel))
theorem dL_law_437 : decode cL_law 437 = .ok (.iaload, 1) := dq_46 (fd_r fcL_law (by decide +kernel))
theorem dL_law_438 : decode cL_law 438 = .ok (.aload_n 0, 1) := dq_42 (fd_r fcL_law (by decide +kernel))
theorem dL_law_439 : decode cL_law 439 = .ok (.iload_n 3, 1) := dq_29 (fd_r fcL_law (by decide +kernel))
theorem dL_law_440 : decode cL_law 440 = .ok (.iconst 2, 1) := dq_5 (fd_r fcL_law (by decide +kernel))
theorem dL_law_441 : decode cL_law 441 = .ok (.iadd, 1) := dq_96 (fd_r fcL_law (by decide +kernel))
theorem dL_law_442 : decode cL_law 442 = .ok (.iaload, 1) := dq_46 (fd_r fcL_law (by decide +kernel))
theorem dL_law_443 : decode cL_law 443 = .ok (.aload_n 0, 1) := dq_42 (fd_r fcL_law (by decide +kernel))
theorem dL_law_444 : decode cL_law 444 = .ok (.iload_n 3, 1) := dq_29 (fd_r fcL_law (by decide +kernel))
theorem dL_law_445 : decode cL_law 445 = .ok (.iconst 3, 1) := dq_6 (fd_r fcL_law (by decide +kernel))
theorem dL_law_446 : decode cL_law 446 = .ok (.iadd, 1) := dq_96 (fd_r fcL_law (by decide +kernel))
theorem dL_law_447 : decode cL_law 447 = .ok (.iaload, 1) := dq_46 (fd_r fcL_law (by decide +kernel))
theorem dL_law_448 : decode cL_law 448 = .ok (.invokevirtual 51, 3) := dq_182 (a := 0) (b := 51) (fd_r fcL_law (by decide +kernel)) rfl
theorem dL_law_451 : decode cL_law 451 = .ok (.pop, 1) := dq_87 (fd_r fcL_law (by decide +kernel))
theorem dL_law_452 : decode cL_law 452 = .ok (.aload_n 2, 1) := dq_44 (fd_r fcL_law (by decide +kernel))
theorem dL_law_453 : decode cL_law 453 = .ok (.aload_n 0, 1) := dq_42 (fd_r fcL_law (by decide +kernel))
theorem dL_law_454 : decode cL_law 454 = .ok (.iload_n 3, 1) := dq_29 (fd_r fcL_law (by decide +kernel))
theorem dL_law_455 : decode cL_law 455 = .ok (.iconst 1, 1) := dq_4 (fd_r fcL_law (by decide +kernel))
theorem dL_law_456 : decode cL_law 456 = .ok (.iadd, 1) := dq_96 (fd_r fcL_law (by decide +kernel))
theorem dL_law_457 : decode cL_law 457 = .ok (.iaload, 1) := dq_46 (fd_r fcL_law (by decide +kernel))
theorem dL_law_458 : decode cL_law 458 = .ok (.aload_n 0, 1) := dq_42 (fd_r fcL_law (by decide +kernel))
theorem dL_law_459 : decode cL_law 459 = .ok (.iload_n 3, 1) := dq_29 (fd_r fcL_law (by decide +kernel))
theorem dL_law_460 : decode cL_law 460 = .ok (.iconst 2, 1) := dq_5 (fd_r fcL_law (by decide +kernel))
theorem dL_law_461 : decode cL_law 461 = .ok (.iadd, 1) := dq_96 (fd_r fcL_law (by decide +kernel))
theorem dL_law_462 : decode cL_law 462 = .ok (.iaload, 1) := dq_46 (fd_r fcL_law (by decide +kernel))
theorem dL_law_463 : decode cL_law 463 = .ok (.aload_n 0, 1) := dq_42 (fd_r fcL_law (by decide +kernel))
theorem dL_law_464 : decode cL_law 464 = .ok (.iload_n 3, 1) := dq_29 (fd_r fcL_law (by decide +kernel))
theorem dL_law_465 : decode cL_law 465 = .ok (.iconst 3, 1) := dq_6 (fd_r fcL_law (by decide +kernel))
end
section
theorem dL_law_466 : decode cL_law 466 = .ok (.iadd, 1) := dq_96 (fd_r fcL_law (by decide +kernel))
theorem dL_law_467 : decode cL_law 467 = .ok (.iaload, 1) := dq_46 (fd_r fcL_law (by decide +kernel))
theorem dL_law_468 : decode cL_law 468 = .ok (.invokevirtual 54, 3) := dq_182 (a := 0) (b := 54) (fd_r fcL_law (by decide +kernel)) rfl
theorem dL_law_471 : decode cL_law 471 = .ok (.pop, 1) := dq_87 (fd_r fcL_law (by decide +kernel))
theorem dL_law_472 : decode cL_law 472 = .ok (.goto 621, 3) := dq_167 (a := 2) (b := 109) (fd_r fcL_law (by decide +kernel)) rfl
theorem dL_law_475 : decode cL_law 475 = .ok (.aload_n 1, 1) := dq_43 (fd_r fcL_law (by decide +kernel))
theorem dL_law_476 : decode cL_law 476 = .ok (.aload_n 0, 1) := dq_42 (fd_r fcL_law (by decide +kernel))
theorem dL_law_477 : decode cL_law 477 = .ok (.iload_n 3, 1) := dq_29 (fd_r fcL_law (by decide +kernel))
theorem dL_law_478 : decode cL_law 478 = .ok (.iconst 1, 1) := dq_4 (fd_r fcL_law (by decide +kernel))
theorem dL_law_479 : decode cL_law 479 = .ok (.iadd, 1) := dq_96 (fd_r fcL_law (by decide +kernel))
theorem dL_law_480 : decode cL_law 480 = .ok (.iaload, 1) := dq_46 (fd_r fcL_law (by decide +kernel))
theorem dL_law_481 : decode cL_law 481 = .ok (.aload_n 0, 1) := dq_42 (fd_r fcL_law (by decide +kernel))
theorem dL_law_482 : decode cL_law 482 = .ok (.iload_n 3, 1) := dq_29 (fd_r fcL_law (by decide +kernel))
theorem dL_law_483 : decode cL_law 483 = .ok (.iconst 2, 1) := dq_5 (fd_r fcL_law (by decide +kernel))
theorem dL_law_484 : decode cL_law 484 = .ok (.iadd, 1) := dq_96 (fd_r fcL_law (by decide +kernel))
theorem dL_law_485 : decode cL_law 485 = .ok (.iaload, 1) := dq_46 (fd_r fcL_law (by decide +kernel))
theorem dL_law_486 : decode cL_law 486 = .ok (.invokevirtual 55, 3) := dq_182 (a := 0) (b := 55) (fd_r fcL_law (by decide +kernel)) rfl
theorem dL_law_489 : decode cL_law 489 = .ok (.pop, 1) := dq_87 (fd_r fcL_law (by decide +kernel))
theorem dL_law_490 : decode cL_law 490 = .ok (.aload_n 2, 1) := dq_44 (fd_r fcL_law (by decide +kernel))
theorem dL_law_491 : decode cL_law 491 = .ok (.aload_n 0, 1) := dq_42 (fd_r fcL_law (by decide +kernel))
theorem dL_law_492 : decode cL_law 492 = .ok (.iload_n 3, 1) := dq_29 (fd_r fcL_law (by decide +kernel))
theorem dL_law_493 : decode cL_law 493 = .ok (.iconst 1, 1) := dq_4 (fd_r fcL_law (by decide +kernel))
theorem dL_law_494 : decode cL_law 494 = .ok (.iadd, 1) := dq_96 (fd_r fcL_law (by decide +kernel))
theorem dL_law_495 : decode cL_law 495 = .ok (.iaload, 1) := dq_46 (fd_r fcL_law (by decide +kernel))
theorem dL_law_496 : decode cL_law 496 = .ok (.aload_n 0, 1) := dq_42 (fd_r fcL_law (by decide +kernel))
theorem dL_law_497 : decode cL_law 497 = .ok (.iload_n 3, 1) := dq_29 (fd_r fcL_law (by decide +kernel))
theorem dL_law_498 : decode cL_law 498 = .ok (.iconst 2, 1) := dq_5 (fd_r fcL_law (by decide +kernel))
theorem dL_law_499 : decode cL_law 499 = .ok (.iadd, 1) := dq_96 (fd_r fcL_law (by decide +kernel))
theorem dL_law_500 : decode cL_law 500 = .ok (.iaload, 1) := dq_46 (fd_r fcL_law (by decide +kernel))
theorem dL_law_501 : decode cL_law 501 = .ok (.invokevirtual 58, 3) := dq_182 (a := 0) (b := 58) (fd_r fcL_law (by decide +kernel)) rfl
theorem dL_law_504 : decode cL_law 504 = .ok (.pop, 1) := dq_87 (fd_r fcL_law (by decide +kernel))
theorem dL_law_505 : decode cL_law 505 = .ok (.goto 588, 3) := dq_167 (a := 2) (b := 76) (fd_r fcL_law (by decide +kernel)) rfl
theorem dL_law_508 : decode cL_law 508 = .ok (.aload_n 1, 1) := dq_43 (fd_r fcL_law (by decide +kernel))
theorem dL_law_509 : decode cL_law 509 = .ok (.aload_n 0, 1) := dq_42 (fd_r fcL_law (by decide +kernel))
theorem dL_law_510 : decode cL_law 510 = .ok (.iload_n 3, 1) := dq_29 (fd_r fcL_law (by decide +kernel))
theorem dL_law_511 : decode cL_law 511 = .ok (.iconst 1, 1) := dq_4 (fd_r fcL_law (by decide +kernel))
theorem dL_law_512 : decode cL_law 512 = .ok (.iadd, 1) := dq_96 (fd_r fcL_law (by decide +kernel))
theorem dL_law_513 : decode cL_law 513 = .ok (.iaload, 1) := dq_46 (fd_r fcL_law (by decide +kernel))
theorem dL_law_514 : decode cL_law 514 = .ok (.invokevirtual 59, 3) := dq_182 (a := 0) (b := 59) (fd_r fcL_law (by decide +kernel)) rfl
theorem dL_law_517 : decode cL_law 517 = .ok (.pop, 1) := dq_87 (fd_r fcL_law (by decide +kernel))
theorem dL_law_518 : decode cL_law 518 = .ok (.aload_n 2, 1) := dq_44 (fd_r fcL_law (by decide +kernel))
theorem dL_law_519 : decode cL_law 519 = .ok (.aload_n 0, 1) := dq_42 (fd_r fcL_law (by decide +kernel))
theorem dL_law_520 : decode cL_law 520 = .ok (.iload_n 3, 1) := dq_29 (fd_r fcL_law (by decide +kernel))
theorem dL_law_521 : decode cL_law 521 = .ok (.iconst 1, 1) := dq_4 (fd_r fcL_law (by decide +kernel))
theorem dL_law_522 : decode cL_law 522 = .ok (.iadd, 1) := dq_96 (fd_r fcL_law (by decide +kernel))
theorem dL_law_523 : decode cL_law 523 = .ok (.iaload, 1) := dq_46 (fd_r fcL_law (by decide +kernel))
theorem dL_law_524 : decode cL_law 524 = .ok (.invokevirtual 62, 3) := dq_182 (a := 0) (b := 62) (fd_r fcL_law (by decide +kernel)) rfl
theorem dL_law_527 : decode cL_law 527 = .ok (.pop, 1) := dq_87 (fd_r fcL_law (by decide +kernel))
theorem dL_law_528 : decode cL_law 528 = .ok (.goto 565, 3) := dq_167 (a := 2) (b := 53) (fd_r fcL_law (by decide +kernel)) rfl
theorem dL_law_531 : decode cL_law 531 = .ok (.aload_n 1, 1) := dq_43 (fd_r fcL_law (by decide +kernel))
theorem dL_law_532 : decode cL_law 532 = .ok (.aload_n 0, 1) := dq_42 (fd_r fcL_law (by decide +kernel))
theorem dL_law_533 : decode cL_law 533 = .ok (.iload_n 3, 1) := dq_29 (fd_r fcL_law (by decide +kernel))
theorem dL_law_534 : decode cL_law 534 = .ok (.iconst 1, 1) := dq_4 (fd_r fcL_law (by decide +kernel))
theorem dL_law_535 : decode cL_law 535 = .ok (.iadd, 1) := dq_96 (fd_r fcL_law (by decide +kernel))
theorem dL_law_536 : decode cL_law 536 = .ok (.iaload, 1) := dq_46 (fd_r fcL_law (by decide +kernel))
theorem dL_law_537 : decode cL_law 537 = .ok (.invokevirtual 63, 3) := dq_182 (a := 0) (b := 63) (fd_r fcL_law (by decide +kernel)) rfl
theorem dL_law_540 : decode cL_law 540 = .ok (.pop, 1) := dq_87 (fd_r fcL_law (by decide +kernel))
theorem dL_law_541 : decode cL_law 541 = .ok (.aload_n 2, 1) := dq_44 (fd_r fcL_law (by decide +kernel))
theorem dL_law_542 : decode cL_law 542 = .ok (.aload_n 0, 1) := dq_42 (fd_r fcL_law (by decide +kernel))
theorem dL_law_543 : decode cL_law 543 = .ok (.iload_n 3, 1) := dq_29 (fd_r fcL_law (by decide +kernel))
theorem dL_law_544 : decode cL_law 544 = .ok (.iconst 1, 1) := dq_4 (fd_r fcL_law (by decide +kernel))
theorem dL_law_545 : decode cL_law 545 = .ok (.iadd, 1) := dq_96 (fd_r fcL_law (by decide +kernel))
theorem dL_law_546 : decode cL_law 546 = .ok (.iaload, 1) := dq_46 (fd_r fcL_law (by decide +kernel))
theorem dL_law_547 : decode cL_law 547 = .ok (.invokevirtual 66, 3) := dq_182 (a := 0) (b := 66) (fd_r fcL_law (by decide +kernel)) rfl
theorem dL_law_550 : decode cL_law 550 = .ok (.pop, 1) := dq_87 (fd_r fcL_law (by decide +kernel))
theorem dL_law_551 : decode cL_law 551 = .ok (.goto 542, 3) := dq_167 (a := 2) (b := 30) (fd_r fcL_law (by decide +kernel)) rfl
theorem dL_law_554 : decode cL_law 554 = .ok (.aload_n 1, 1) := dq_43 (fd_r fcL_law (by decide +kernel))
theorem dL_law_555 : decode cL_law 555 = .ok (.invokevirtual 67, 3) := dq_182 (a := 0) (b := 67) (fd_r fcL_law (by decide +kernel)) rfl
theorem dL_law_558 : decode cL_law 558 = .ok (.pop, 1) := dq_87 (fd_r fcL_law (by decide +kernel))
theorem dL_law_559 : decode cL_law 559 = .ok (.aload_n 2, 1) := dq_44 (fd_r fcL_law (by decide +kernel))
theorem dL_law_560 : decode cL_law 560 = .ok (.invokevirtual 70, 3) := dq_182 (a := 0) (b := 70) (fd_r fcL_law (by decide +kernel)) rfl
theorem dL_law_563 : decode cL_law 563 = .ok (.pop, 1) := dq_87 (fd_r fcL_law (by decide +kernel))
theorem dL_law_564 : decode cL_law 564 = .ok (.goto 529, 3) := dq_167 (a := 2) (b := 17) (fd_r fcL_law (by decide +kernel)) rfl
theorem dL_law_567 : decode cL_law 567 = .ok (.aload_n 1, 1) := dq_43 (fd_r fcL_law (by decide +kernel))
theorem dL_law_568 : decode cL_law 568 = .ok (.aload_n 0, 1) := dq_42 (fd_r fcL_law (by decide +kernel))
theorem dL_law_569 : decode cL_law 569 = .ok (.iload_n 3, 1) := dq_29 (fd_r fcL_law (by decide +kernel))
theorem dL_law_570 : decode cL_law 570 = .ok (.iconst 1, 1) := dq_4 (fd_r fcL_law (by decide +kernel))
theorem dL_law_571 : decode cL_law 571 = .ok (.iadd, 1) := dq_96 (fd_r fcL_law (by decide +kernel))
theorem dL_law_572 : decode cL_law 572 = .ok (.iaload, 1) := dq_46 (fd_r fcL_law (by decide +kernel))
theorem dL_law_573 : decode cL_law 573 = .ok (.invokevirtual 71, 3) := dq_182 (a := 0) (b := 71) (fd_r fcL_law (by decide +kernel)) rfl
theorem dL_law_576 : decode cL_law 576 = .ok (.pop, 1) := dq_87 (fd_r fcL_law (by decide +kernel))
theorem dL_law_577 : decode cL_law 577 = .ok (.aload_n 2, 1) := dq_44 (fd_r fcL_law (by decide +kernel))
theorem dL_law_578 : decode cL_law 578 = .ok (.aload_n 0, 1) := dq_42 (fd_r fcL_law (by decide +kernel))
theorem dL_law_579 : decode cL_law 579 = .ok (.iload_n 3, 1) := dq_29 (fd_r fcL_law (by decide +kernel))
theorem dL_law_580 : decode cL_law 580 = .ok (.iconst 1, 1) := dq_4 (fd_r fcL_law (by decide +kernel))
theorem dL_law_581 : decode cL_law 581 = .ok (.iadd, 1) := dq_96 (fd_r fcL_law (by decide +kernel))
theorem dL_law_582 : decode cL_law 582 = .ok (.iaload, 1) := dq_46 (fd_r fcL_law (by decide +kernel))
theorem dL_law_583 : decode cL_law 583 = .ok (.invokevirtual 74, 3) := dq_182 (a := 0) (b := 74) (fd_r fcL_law (by decide +kernel)) rfl
theorem dL_law_586 : decode cL_law 586 = .ok (.pop, 1) := dq_87 (fd_r fcL_law (by decide +kernel))
theorem dL_law_587 : decode cL_law 587 = .ok (.goto 506, 3) := dq_167 (a := 1) (b := 250) (fd_r fcL_law (by decide +kernel)) rfl
theorem dL_law_590 : decode cL_law 590 = .ok (.aload_n 1, 1) := dq_43 (fd_r fcL_law (by decide +kernel))
theorem dL_law_591 : decode cL_law 591 = .ok (.aload_n 0, 1) := dq_42 (fd_r fcL_law (by decide +kernel))
theorem dL_law_592 : decode cL_law 592 = .ok (.iload_n 3, 1) := dq_29 (fd_r fcL_law (by decide +kernel))
theorem dL_law_593 : decode cL_law 593 = .ok (.iconst 1, 1) := dq_4 (fd_r fcL_law (by decide +kernel))
theorem dL_law_594 : decode cL_law 594 = .ok (.iadd, 1) := dq_96 (fd_r fcL_law (by decide +kernel))
theorem dL_law_595 : decode cL_law 595 = .ok (.iaload, 1) := dq_46 (fd_r fcL_law (by decide +kernel))
theorem dL_law_596 : decode cL_law 596 = .ok (.invokevirtual 75, 3) := dq_182 (a := 0) (b := 75) (fd_r fcL_law (by decide +kernel)) rfl
theorem dL_law_599 : decode cL_law 599 = .ok (.pop, 1) := dq_87 (fd_r fcL_law (by decide +kernel))
theorem dL_law_600 : decode cL_law 600 = .ok (.aload_n 2, 1) := dq_44 (fd_r fcL_law (by decide +kernel))
theorem dL_law_601 : decode cL_law 601 = .ok (.aload_n 0, 1) := dq_42 (fd_r fcL_law (by decide +kernel))
theorem dL_law_602 : decode cL_law 602 = .ok (.iload_n 3, 1) := dq_29 (fd_r fcL_law (by decide +kernel))
theorem dL_law_603 : decode cL_law 603 = .ok (.iconst 1, 1) := dq_4 (fd_r fcL_law (by decide +kernel))
theorem dL_law_604 : decode cL_law 604 = .ok (.iadd, 1) := dq_96 (fd_r fcL_law (by decide +kernel))
theorem dL_law_605 : decode cL_law 605 = .ok (.iaload, 1) := dq_46 (fd_r fcL_law (by decide +kernel))
theorem dL_law_606 : decode cL_law 606 = .ok (.invokevirtual 78, 3) := dq_182 (a := 0) (b := 78) (fd_r fcL_law (by decide +kernel)) rfl
theorem dL_law_609 : decode cL_law 609 = .ok (.pop, 1) := dq_87 (fd_r fcL_law (by decide +kernel))
theorem dL_law_610 : decode cL_law 610 = .ok (.goto 483, 3) := dq_167 (a := 1) (b := 227) (fd_r fcL_law (by decide +kernel)) rfl
theorem dL_law_613 : decode cL_law 613 = .ok (.aload_n 1, 1) := dq_43 (fd_r fcL_law (by decide +kernel))
theorem dL_law_614 : decode cL_law 614 = .ok (.aload_n 0, 1) := dq_42 (fd_r fcL_law (by decide +kernel))
theorem dL_law_615 : decode cL_law 615 = .ok (.iload_n 3, 1) := dq_29 (fd_r fcL_law (by decide +kernel))
theorem dL_law_616 : decode cL_law 616 = .ok (.iconst 1, 1) := dq_4 (fd_r fcL_law (by decide +kernel))
theorem dL_law_617 : decode cL_law 617 = .ok (.iadd, 1) := dq_96 (fd_r fcL_law (by decide +kernel))
theorem dL_law_618 : decode cL_law 618 = .ok (.iaload, 1) := dq_46 (fd_r fcL_law (by decide +kernel))
theorem dL_law_619 : decode cL_law 619 = .ok (.aload_n 0, 1) := dq_42 (fd_r fcL_law (by decide +kernel))
theorem dL_law_620 : decode cL_law 620 = .ok (.iload_n 3, 1) := dq_29 (fd_r fcL_law (by decide +kernel))
theorem dL_law_621 : decode cL_law 621 = .ok (.iconst 2, 1) := dq_5 (fd_r fcL_law (by decide +kernel))
theorem dL_law_622 : decode cL_law 622 = .ok (.iadd, 1) := dq_96 (fd_r fcL_law (by decide +kernel))
theorem dL_law_623 : decode cL_law 623 = .ok (.iaload, 1) := dq_46 (fd_r fcL_law (by decide +kernel))
theorem dL_law_624 : decode cL_law 624 = .ok (.invokevirtual 79, 3) := dq_182 (a := 0) (b := 79) (fd_r fcL_law (by decide +kernel)) rfl
theorem dL_law_627 : decode cL_law 627 = .ok (.pop, 1) := dq_87 (fd_r fcL_law (by decide +kernel))
theorem dL_law_628 : decode cL_law 628 = .ok (.aload_n 2, 1) := dq_44 (fd_r fcL_law (by decide +kernel))
theorem dL_law_629 : decode cL_law 629 = .ok (.aload_n 0, 1) := dq_42 (fd_r fcL_law (by decide +kernel))
theorem dL_law_630 : decode cL_law 630 = .ok (.iload_n 3, 1) := dq_29 (fd_r fcL_law (by decide +kernel))
theorem dL_law_631 : decode cL_law 631 = .ok (.iconst 1, 1) := dq_4 (fd_r fcL_law (by decide +kernel))
theorem dL_law_632 : decode cL_law 632 = .ok (.iadd, 1) := dq_96 (fd_r fcL_law (by decide +kernel))
theorem dL_law_633 : decode cL_law 633 = .ok (.iaload, 1) := dq_46 (fd_r fcL_law (by decide +kernel))
theorem dL_law_634 : decode cL_law 634 = .ok (.aload_n 0, 1) := dq_42 (fd_r fcL_law (by decide +kernel))
theorem dL_law_635 : decode cL_law 635 = .ok (.iload_n 3, 1) := dq_29 (fd_r fcL_law (by decide +kernel))
theorem dL_law_636 : decode cL_law 636 = .ok (.iconst 2, 1) := dq_5 (fd_r fcL_law (by decide +kernel))
theorem dL_law_637 : decode cL_law 637 = .ok (.iadd, 1) := dq_96 (fd_r fcL_law (by decide +kernel))
theorem dL_law_638 : decode cL_law 638 = .ok (.iaload, 1) := dq_46 (fd_r fcL_law (by decide +kernel))
theorem dL_law_639 : decode cL_law 639 = .ok (.invokevirtual 82, 3) := dq_182 (a := 0) (b := 82) (fd_r fcL_law (by decide +kernel)) rfl
theorem dL_law_642 : decode cL_law 642 = .ok (.pop, 1) := dq_87 (fd_r fcL_law (by decide +kernel))
theorem dL_law_643 : decode cL_law 643 = .ok (.goto 450, 3) := dq_167 (a := 1) (b := 194) (fd_r fcL_law (by decide +kernel)) rfl
theorem dL_law_646 : decode cL_law 646 = .ok (.aload_n 1, 1) := dq_43 (fd_r fcL_law (by decide +kernel))
theorem dL_law_647 : decode cL_law 647 = .ok (.aload_n 0, 1) := dq_42 (fd_r fcL_law (by decide +kernel))
theorem dL_law_648 : decode cL_law 648 = .ok (.iload_n 3, 1) := dq_29 (fd_r fcL_law (by decide +kernel))
theorem dL_law_649 : decode cL_law 649 = .ok (.iconst 1, 1) := dq_4 (fd_r fcL_law (by decide +kernel))
theorem dL_law_650 : decode cL_law 650 = .ok (.iadd, 1) := dq_96 (fd_r fcL_law (by decide +kernel))
theorem dL_law_651 : decode cL_law 651 = .ok (.iaload, 1) := dq_46 (fd_r fcL_law (by decide +kernel))
theorem dL_law_652 : decode cL_law 652 = .ok (.invokevirtual 83, 3) := dq_182 (a := 0) (b := 83) (fd_r fcL_law (by decide +kernel)) rfl
theorem dL_law_655 : decode cL_law 655 = .ok (.pop, 1) := dq_87 (fd_r fcL_law (by decide +kernel))
theorem dL_law_656 : decode cL_law 656 = .ok (.aload_n 2, 1) := dq_44 (fd_r fcL_law (by decide +kernel))
theorem dL_law_657 : decode cL_law 657 = .ok (.aload_n 0, 1) := dq_42 (fd_r fcL_law (by decide +kernel))
theorem dL_law_658 : decode cL_law 658 = .ok (.iload_n 3, 1) := dq_29 (fd_r fcL_law (by decide +kernel))
theorem dL_law_659 : decode cL_law 659 = .ok (.iconst 1, 1) := dq_4 (fd_r fcL_law (by decide +kernel))
theorem dL_law_660 : decode cL_law 660 = .ok (.iadd, 1) := dq_96 (fd_r fcL_law (by decide +kernel))
theorem dL_law_661 : decode cL_law 661 = .ok (.iaload, 1) := dq_46 (fd_r fcL_law (by decide +kernel))
theorem dL_law_662 : decode cL_law 662 = .ok (.invokevirtual 86, 3) := dq_182 (a := 0) (b := 86) (fd_r fcL_law (by decide +kernel)) rfl
theorem dL_law_665 : decode cL_law 665 = .ok (.pop, 1) := dq_87 (fd_r fcL_law (by decide +kernel))
theorem dL_law_666 : decode cL_law 666 = .ok (.goto 427, 3) := dq_167 (a := 1) (b := 171) (fd_r fcL_law (by decide +kernel)) rfl
theorem dL_law_669 : decode cL_law 669 = .ok (.aload_n 1, 1) := dq_43 (fd_r fcL_law (by decide +kernel))
theorem dL_law_670 : decode cL_law 670 = .ok (.aload_n 0, 1) := dq_42 (fd_r fcL_law (by decide +kernel))
theorem dL_law_671 : decode cL_law 671 = .ok (.iload_n 3, 1) := dq_29 (fd_r fcL_law (by decide +kernel))
theorem dL_law_672 : decode cL_law 672 = .ok (.iconst 1, 1) := dq_4 (fd_r fcL_law (by decide +kernel))
theorem dL_law_673 : decode cL_law 673 = .ok (.iadd, 1) := dq_96 (fd_r fcL_law (by decide +kernel))
theorem dL_law_674 : decode cL_law 674 = .ok (.iaload, 1) := dq_46 (fd_r fcL_law (by decide +kernel))
theorem dL_law_675 : decode cL_law 675 = .ok (.aload_n 0, 1) := dq_42 (fd_r fcL_law (by decide +kernel))
theorem dL_law_676 : decode cL_law 676 = .ok (.iload_n 3, 1) := dq_29 (fd_r fcL_law (by decide +kernel))
theorem dL_law_677 : decode cL_law 677 = .ok (.iconst 2, 1) := dq_5 (fd_r fcL_law (by decide +kernel))
theorem dL_law_678 : decode cL_law 678 = .ok (.iadd, 1) := dq_96 (fd_r fcL_law (by decide +kernel))
theorem dL_law_679 : decode cL_law 679 = .ok (.iaload, 1) := dq_46 (fd_r fcL_law (by decide +kernel))
theorem dL_law_680 : decode cL_law 680 = .ok (.aload_n 0, 1) := dq_42 (fd_r fcL_law (by decide +kernel))
theorem dL_law_681 : decode cL_law 681 = .ok (.iload_n 3, 1) := dq_29 (fd_r fcL_law (by decide +kernel))
theorem dL_law_682 : decode cL_law 682 = .ok (.iconst 3, 1) := dq_6 (fd_r fcL_law (by decide +kernel))
theorem dL_law_683 : decode cL_law 683 = .ok (.iadd, 1) := dq_96 (fd_r fcL_law (by decide +kernel))
theorem dL_law_684 : decode cL_law 684 = .ok (.iaload, 1) := dq_46 (fd_r fcL_law (by decide +kernel))
theorem dL_law_685 : decode cL_law 685 = .ok (.invokevirtual 87, 3) := dq_182 (a := 0) (b := 87) (fd_r fcL_law (by decide +kernel)) rfl
theorem dL_law_688 : decode cL_law 688 = .ok (.pop, 1) := dq_87 (fd_r fcL_law (by decide +kernel))
theorem dL_law_689 : decode cL_law 689 = .ok (.aload_n 2, 1) := dq_44 (fd_r fcL_law (by decide +kernel))
theorem dL_law_690 : decode cL_law 690 = .ok (.aload_n 0, 1) := dq_42 (fd_r fcL_law (by decide +kernel))
theorem dL_law_691 : decode cL_law 691 = .ok (.iload_n 3, 1) := dq_29 (fd_r fcL_law (by decide +kernel))
theorem dL_law_692 : decode cL_law 692 = .ok (.iconst 1, 1) := dq_4 (fd_r fcL_law (by decide +kernel))
theorem dL_law_693 : decode cL_law 693 = .ok (.iadd, 1) := dq_96 (fd_r fcL_law (by decide +kernel))
theorem dL_law_694 : decode cL_law 694 = .ok (.iaload, 1) := dq_46 (fd_r fcL_law (by decide +kernel))
theorem dL_law_695 : decode cL_law 695 = .ok (.aload_n 0, 1) := dq_42 (fd_r fcL_law (by decide +kernel))
theorem dL_law_696 : decode cL_law 696 = .ok (.iload_n 3, 1) := dq_29 (fd_r fcL_law (by decide +kernel))
theorem dL_law_697 : decode cL_law 697 = .ok (.iconst 2, 1) := dq_5 (fd_r fcL_law (by decide +kernel))
theorem dL_law_698 : decode cL_law 698 = .ok (.iadd, 1) := dq_96 (fd_r fcL_law (by decide +kernel))
theorem dL_law_699 : decode cL_law 699 = .ok (.iaload, 1) := dq_46 (fd_r fcL_law (by decide +kernel))
theorem dL_law_700 : decode cL_law 700 = .ok (.aload_n 0, 1) := dq_42 (fd_r fcL_law (by decide +kernel))
theorem dL_law_701 : decode cL_law 701 = .ok (.iload_n 3, 1) := dq_29 (fd_r fcL_law (by decide +kernel))
theorem dL_law_702 : decode cL_law 702 = .ok (.iconst 3, 1) := dq_6 (fd_r fcL_law (by decide +kernel))
theorem dL_law_703 : decode cL_law 703 = .ok (.iadd, 1) := dq_96 (fd_r fcL_law (by decide +kernel))
theorem dL_law_704 : decode cL_law 704 = .ok (.iaload, 1) := dq_46 (fd_r fcL_law (by decide +kernel))
theorem dL_law_705 : decode cL_law 705 = .ok (.invokevirtual 90, 3) := dq_182 (a := 0) (b := 90) (fd_r fcL_law (by decide +kernel)) rfl
theorem dL_law_708 : decode cL_law 708 = .ok (.pop, 1) := dq_87 (fd_r fcL_law (by decide +kernel))
theorem dL_law_709 : decode cL_law 709 = .ok (.goto 384, 3) := dq_167 (a := 1) (b := 128) (fd_r fcL_law (by decide +kernel)) rfl
theorem dL_law_712 : decode cL_law 712 = .ok (.aload_n 1, 1) := dq_43 (fd_r fcL_law (by decide +kernel))
theorem dL_law_713 : decode cL_law 713 = .ok (.aload_n 0, 1) := dq_42 (fd_r fcL_law (by decide +kernel))
theorem dL_law_714 : decode cL_law 714 = .ok (.iload_n 3, 1) := dq_29 (fd_r fcL_law (by decide +kernel))
theorem dL_law_715 : decode cL_law 715 = .ok (.iconst 1, 1) := dq_4 (fd_r fcL_law (by decide +kernel))
theorem dL_law_716 : decode cL_law 716 = .ok (.iadd, 1) := dq_96 (fd_r fcL_law (by decide +kernel))
theorem dL_law_717 : decode cL_law 717 = .ok (.iaload, 1) := dq_46 (fd_r fcL_law (by decide +kernel))
theorem dL_law_718 : decode cL_law 718 = .ok (.aload_n 0, 1) := dq_42 (fd_r fcL_law (by decide +kernel))
theorem dL_law_719 : decode cL_law 719 = .ok (.iload_n 3, 1) := dq_29 (fd_r fcL_law (by decide +kernel))
theorem dL_law_720 : decode cL_law 720 = .ok (.iconst 2, 1) := dq_5 (fd_r fcL_law (by decide +kernel))
theorem dL_law_721 : decode cL_law 721 = .ok (.iadd, 1) := dq_96 (fd_r fcL_law (by decide +kernel))
theorem dL_law_722 : decode cL_law 722 = .ok (.iaload, 1) := dq_46 (fd_r fcL_law (by decide +kernel))
theorem dL_law_723 : decode cL_law 723 = .ok (.invokevirtual 91, 3) := dq_182 (a := 0) (b := 91) (fd_r fcL_law (by decide +kernel)) rfl
theorem dL_law_726 : decode cL_law 726 = .ok (.pop, 1) := dq_87 (fd_r fcL_law (by decide +kernel))
theorem dL_law_727 : decode cL_law 727 = .ok (.aload_n 2, 1) := dq_44 (fd_r fcL_law (by decide +kernel))
theorem dL_law_728 : decode cL_law 728 = .ok (.aload_n 0, 1) := dq_42 (fd_r fcL_law (by decide +kernel))
theorem dL_law_729 : decode cL_law 729 = .ok (.iload_n 3, 1) := dq_29 (fd_r fcL_law (by decide +kernel))
theorem dL_law_730 : decode cL_law 730 = .ok (.iconst 1, 1) := dq_4 (fd_r fcL_law (by decide +kernel))
theorem dL_law_731 : decode cL_law 731 = .ok (.iadd, 1) := dq_96 (fd_r fcL_law (by decide +kernel))
theorem dL_law_732 : decode cL_law 732 = .ok (.iaload, 1) := dq_46 (fd_r fcL_law (by decide +kernel))
theorem dL_law_733 : decode cL_law 733 = .ok (.aload_n 0, 1) := dq_42 (fd_r fcL_law (by decide +kernel))
theorem dL_law_734 : decode cL_law 734 = .ok (.iload_n 3, 1) := dq_29 (fd_r fcL_law (by decide +kernel))
theorem dL_law_735 : decode cL_law 735 = .ok (.iconst 2, 1) := dq_5 (fd_r fcL_law (by decide +kernel))
theorem dL_law_736 : decode cL_law 736 = .ok (.iadd, 1) := dq_96 (fd_r fcL_law (by decide +kernel))
theorem dL_law_737 : decode cL_law 737 = .ok (.iaload, 1) := dq_46 (fd_r fcL_law (by decide +kernel))
theorem dL_law_738 : decode cL_law 738 = .ok (.invokevirtual 94, 3) := dq_182 (a := 0) (b := 94) (fd_r fcL_law (by decide +kernel)) rfl
theorem dL_law_741 : decode cL_law 741 = .ok (.pop, 1) := dq_87 (fd_r fcL_law (by decide +kernel))
theorem dL_law_742 : decode cL_law 742 = .ok (.goto 351, 3) := dq_167 (a := 1) (b := 95) (fd_r fcL_law (by decide +kernel)) rfl
theorem dL_law_745 : decode cL_law 745 = .ok (.aload_n 1, 1) := dq_43 (fd_r fcL_law (by decide +kernel))
theorem dL_law_746 : decode cL_law 746 = .ok (.aload_n 0, 1) := dq_42 (fd_r fcL_law (by decide +kernel))
theorem dL_law_747 : decode cL_law 747 = .ok (.iload_n 3, 1) := dq_29 (fd_r fcL_law (by decide +kernel))
theorem dL_law_748 : decode cL_law 748 = .ok (.iconst 1, 1) := dq_4 (fd_r fcL_law (by decide +kernel))
theorem dL_law_749 : decode cL_law 749 = .ok (.iadd, 1) := dq_96 (fd_r fcL_law (by decide +kernel))
theorem dL_law_750 : decode cL_law 750 = .ok (.iaload, 1) := dq_46 (fd_r fcL_law (by decide +kernel))
theorem dL_law_751 : decode cL_law 751 = .ok (.invokevirtual 95, 3) := dq_182 (a := 0) (b := 95) (fd_r fcL_law (by decide +kernel)) rfl
theorem dL_law_754 : decode cL_law 754 = .ok (.pop, 1) := dq_87 (fd_r fcL_law (by decide +kernel))
theorem dL_law_755 : decode cL_law 755 = .ok (.aload_n 2, 1) := dq_44 (fd_r fcL_law (by decide +kernel))
theorem dL_law_756 : decode cL_law 756 = .ok (.aload_n 0, 1) := dq_42 (fd_r fcL_law (by decide +kernel))
theorem dL_law_757 : decode cL_law 757 = .ok (.iload_n 3, 1) := dq_29 (fd_r fcL_law (by decide +kernel))
theorem dL_law_758 : decode cL_law 758 = .ok (.iconst 1, 1) := dq_4 (fd_r fcL_law (by decide +kernel))
theorem dL_law_759 : decode cL_law 759 = .ok (.iadd, 1) := dq_96 (fd_r fcL_law (by decide +kernel))
theorem dL_law_760 : decode cL_law 760 = .ok (.iaload, 1) := dq_46 (fd_r fcL_law (by decide +kernel))
theorem dL_law_761 : decode cL_law 761 = .ok (.invokevirtual 98, 3) := dq_182 (a := 0) (b := 98) (fd_r fcL_law (by decide +kernel)) rfl
theorem dL_law_764 : decode cL_law 764 = .ok (.pop, 1) := dq_87 (fd_r fcL_law (by decide +kernel))
theorem dL_law_765 : decode cL_law 765 = .ok (.goto 328, 3) := dq_167 (a := 1) (b := 72) (fd_r fcL_law (by decide +kernel)) rfl
theorem dL_law_768 : decode cL_law 768 = .ok (.aload_n 1, 1) := dq_43 (fd_r fcL_law (by decide +kernel))
theorem dL_law_769 : decode cL_law 769 = .ok (.invokevirtual 99, 3) := dq_182 (a := 0) (b := 99) (fd_r fcL_law (by decide +kernel)) rfl
theorem dL_law_772 : decode cL_law 772 = .ok (.aload_n 2, 1) := dq_44 (fd_r fcL_law (by decide +kernel))
theorem dL_law_773 : decode cL_law 773 = .ok (.invokevirtual 102, 3) := dq_182 (a := 0) (b := 102) (fd_r fcL_law (by decide +kernel)) rfl
theorem dL_law_776 : decode cL_law 776 = .ok (.if_icmp .eq 317, 3) := dq_159 (a := 1) (b := 61) (fd_r fcL_law (by decide +kernel)) rfl
theorem dL_law_781 : decode cL_law 781 = .ok (.aload_n 1, 1) := dq_43 (fd_r fcL_law (by decide +kernel))
theorem dL_law_782 : decode cL_law 782 = .ok (.aload_n 0, 1) := dq_42 (fd_r fcL_law (by decide +kernel))
theorem dL_law_783 : decode cL_law 783 = .ok (.iload_n 3, 1) := dq_29 (fd_r fcL_law (by decide +kernel))
theorem dL_law_784 : decode cL_law 784 = .ok (.iconst 1, 1) := dq_4 (fd_r fcL_law (by decide +kernel))
theorem dL_law_785 : decode cL_law 785 = .ok (.iadd, 1) := dq_96 (fd_r fcL_law (by decide +kernel))
theorem dL_law_786 : decode cL_law 786 = .ok (.iaload, 1) := dq_46 (fd_r fcL_law (by decide +kernel))
theorem dL_law_787 : decode cL_law 787 = .ok (.invokevirtual 103, 3) := dq_182 (a := 0) (b := 103) (fd_r fcL_law (by decide +kernel)) rfl
theorem dL_law_790 : decode cL_law 790 = .ok (.pop, 1) := dq_87 (fd_r fcL_law (by decide +kernel))
theorem dL_law_791 : decode cL_law 791 = .ok (.aload_n 2, 1) := dq_44 (fd_r fcL_law (by decide +kernel))
theorem dL_law_792 : decode cL_law 792 = .ok (.aload_n 0, 1) := dq_42 (fd_r fcL_law (by decide +kernel))
theorem dL_law_793 : decode cL_law 793 = .ok (.iload_n 3, 1) := dq_29 (fd_r fcL_law (by decide +kernel))
end
section
theorem dL_law_794 : decode cL_law 794 = .ok (.iconst 1, 1) := dq_4 (fd_r fcL_law (by decide +kernel))
theorem dL_law_795 : decode cL_law 795 = .ok (.iadd, 1) := dq_96 (fd_r fcL_law (by decide +kernel))
theorem dL_law_796 : decode cL_law 796 = .ok (.iaload, 1) := dq_46 (fd_r fcL_law (by decide +kernel))
theorem dL_law_797 : decode cL_law 797 = .ok (.invokevirtual 106, 3) := dq_182 (a := 0) (b := 106) (fd_r fcL_law (by decide +kernel)) rfl
theorem dL_law_800 : decode cL_law 800 = .ok (.pop, 1) := dq_87 (fd_r fcL_law (by decide +kernel))
theorem dL_law_801 : decode cL_law 801 = .ok (.goto 292, 3) := dq_167 (a := 1) (b := 36) (fd_r fcL_law (by decide +kernel)) rfl
theorem dL_law_804 : decode cL_law 804 = .ok (.aload_n 1, 1) := dq_43 (fd_r fcL_law (by decide +kernel))
theorem dL_law_805 : decode cL_law 805 = .ok (.aload_n 0, 1) := dq_42 (fd_r fcL_law (by decide +kernel))
theorem dL_law_806 : decode cL_law 806 = .ok (.iload_n 3, 1) := dq_29 (fd_r fcL_law (by decide +kernel))
theorem dL_law_807 : decode cL_law 807 = .ok (.iconst 1, 1) := dq_4 (fd_r fcL_law (by decide +kernel))
theorem dL_law_808 : decode cL_law 808 = .ok (.iadd, 1) := dq_96 (fd_r fcL_law (by decide +kernel))
theorem dL_law_809 : decode cL_law 809 = .ok (.iaload, 1) := dq_46 (fd_r fcL_law (by decide +kernel))
theorem dL_law_810 : decode cL_law 810 = .ok (.invokevirtual 107, 3) := dq_182 (a := 0) (b := 107) (fd_r fcL_law (by decide +kernel)) rfl
theorem dL_law_813 : decode cL_law 813 = .ok (.pop, 1) := dq_87 (fd_r fcL_law (by decide +kernel))
theorem dL_law_814 : decode cL_law 814 = .ok (.aload_n 2, 1) := dq_44 (fd_r fcL_law (by decide +kernel))
theorem dL_law_815 : decode cL_law 815 = .ok (.aload_n 0, 1) := dq_42 (fd_r fcL_law (by decide +kernel))
theorem dL_law_816 : decode cL_law 816 = .ok (.iload_n 3, 1) := dq_29 (fd_r fcL_law (by decide +kernel))
theorem dL_law_817 : decode cL_law 817 = .ok (.iconst 1, 1) := dq_4 (fd_r fcL_law (by decide +kernel))
theorem dL_law_818 : decode cL_law 818 = .ok (.iadd, 1) := dq_96 (fd_r fcL_law (by decide +kernel))
theorem dL_law_819 : decode cL_law 819 = .ok (.iaload, 1) := dq_46 (fd_r fcL_law (by decide +kernel))
theorem dL_law_820 : decode cL_law 820 = .ok (.invokevirtual 110, 3) := dq_182 (a := 0) (b := 110) (fd_r fcL_law (by decide +kernel)) rfl
theorem dL_law_823 : decode cL_law 823 = .ok (.pop, 1) := dq_87 (fd_r fcL_law (by decide +kernel))
theorem dL_law_824 : decode cL_law 824 = .ok (.goto 269, 3) := dq_167 (a := 1) (b := 13) (fd_r fcL_law (by decide +kernel)) rfl
theorem dL_law_827 : decode cL_law 827 = .ok (.aload_n 1, 1) := dq_43 (fd_r fcL_law (by decide +kernel))
theorem dL_law_828 : decode cL_law 828 = .ok (.aload_n 0, 1) := dq_42 (fd_r fcL_law (by decide +kernel))
theorem dL_law_829 : decode cL_law 829 = .ok (.iload_n 3, 1) := dq_29 (fd_r fcL_law (by decide +kernel))
theorem dL_law_830 : decode cL_law 830 = .ok (.iconst 1, 1) := dq_4 (fd_r fcL_law (by decide +kernel))
theorem dL_law_831 : decode cL_law 831 = .ok (.iadd, 1) := dq_96 (fd_r fcL_law (by decide +kernel))
theorem dL_law_832 : decode cL_law 832 = .ok (.iaload, 1) := dq_46 (fd_r fcL_law (by decide +kernel))
theorem dL_law_833 : decode cL_law 833 = .ok (.invokevirtual 111, 3) := dq_182 (a := 0) (b := 111) (fd_r fcL_law (by decide +kernel)) rfl
theorem dL_law_836 : decode cL_law 836 = .ok (.pop, 1) := dq_87 (fd_r fcL_law (by decide +kernel))
theorem dL_law_837 : decode cL_law 837 = .ok (.aload_n 2, 1) := dq_44 (fd_r fcL_law (by decide +kernel))
theorem dL_law_838 : decode cL_law 838 = .ok (.aload_n 0, 1) := dq_42 (fd_r fcL_law (by decide +kernel))
theorem dL_law_839 : decode cL_law 839 = .ok (.iload_n 3, 1) := dq_29 (fd_r fcL_law (by decide +kernel))
theorem dL_law_840 : decode cL_law 840 = .ok (.iconst 1, 1) := dq_4 (fd_r fcL_law (by decide +kernel))
theorem dL_law_841 : decode cL_law 841 = .ok (.iadd, 1) := dq_96 (fd_r fcL_law (by decide +kernel))
theorem dL_law_842 : decode cL_law 842 = .ok (.iaload, 1) := dq_46 (fd_r fcL_law (by decide +kernel))
theorem dL_law_843 : decode cL_law 843 = .ok (.invokevirtual 114, 3) := dq_182 (a := 0) (b := 114) (fd_r fcL_law (by decide +kernel)) rfl
theorem dL_law_846 : decode cL_law 846 = .ok (.pop, 1) := dq_87 (fd_r fcL_law (by decide +kernel))
theorem dL_law_847 : decode cL_law 847 = .ok (.goto 246, 3) := dq_167 (a := 0) (b := 246) (fd_r fcL_law (by decide +kernel)) rfl
theorem dL_law_850 : decode cL_law 850 = .ok (.aload_n 1, 1) := dq_43 (fd_r fcL_law (by decide +kernel))
theorem dL_law_851 : decode cL_law 851 = .ok (.aload_n 0, 1) := dq_42 (fd_r fcL_law (by decide +kernel))
theorem dL_law_852 : decode cL_law 852 = .ok (.iload_n 3, 1) := dq_29 (fd_r fcL_law (by decide +kernel))
theorem dL_law_853 : decode cL_law 853 = .ok (.iconst 1, 1) := dq_4 (fd_r fcL_law (by decide +kernel))
theorem dL_law_854 : decode cL_law 854 = .ok (.iadd, 1) := dq_96 (fd_r fcL_law (by decide +kernel))
theorem dL_law_855 : decode cL_law 855 = .ok (.iaload, 1) := dq_46 (fd_r fcL_law (by decide +kernel))
theorem dL_law_856 : decode cL_law 856 = .ok (.invokevirtual 115, 3) := dq_182 (a := 0) (b := 115) (fd_r fcL_law (by decide +kernel)) rfl
theorem dL_law_859 : decode cL_law 859 = .ok (.pop, 1) := dq_87 (fd_r fcL_law (by decide +kernel))
theorem dL_law_860 : decode cL_law 860 = .ok (.aload_n 2, 1) := dq_44 (fd_r fcL_law (by decide +kernel))
theorem dL_law_861 : decode cL_law 861 = .ok (.aload_n 0, 1) := dq_42 (fd_r fcL_law (by decide +kernel))
theorem dL_law_862 : decode cL_law 862 = .ok (.iload_n 3, 1) := dq_29 (fd_r fcL_law (by decide +kernel))
theorem dL_law_863 : decode cL_law 863 = .ok (.iconst 1, 1) := dq_4 (fd_r fcL_law (by decide +kernel))
theorem dL_law_864 : decode cL_law 864 = .ok (.iadd, 1) := dq_96 (fd_r fcL_law (by decide +kernel))
theorem dL_law_865 : decode cL_law 865 = .ok (.iaload, 1) := dq_46 (fd_r fcL_law (by decide +kernel))
theorem dL_law_866 : decode cL_law 866 = .ok (.invokevirtual 118, 3) := dq_182 (a := 0) (b := 118) (fd_r fcL_law (by decide +kernel)) rfl
theorem dL_law_869 : decode cL_law 869 = .ok (.pop, 1) := dq_87 (fd_r fcL_law (by decide +kernel))
theorem dL_law_870 : decode cL_law 870 = .ok (.goto 223, 3) := dq_167 (a := 0) (b := 223) (fd_r fcL_law (by decide +kernel)) rfl
theorem dL_law_873 : decode cL_law 873 = .ok (.aload_n 1, 1) := dq_43 (fd_r fcL_law (by decide +kernel))
theorem dL_law_874 : decode cL_law 874 = .ok (.aload_n 0, 1) := dq_42 (fd_r fcL_law (by decide +kernel))
theorem dL_law_875 : decode cL_law 875 = .ok (.iload_n 3, 1) := dq_29 (fd_r fcL_law (by decide +kernel))
theorem dL_law_876 : decode cL_law 876 = .ok (.iconst 1, 1) := dq_4 (fd_r fcL_law (by decide +kernel))
theorem dL_law_877 : decode cL_law 877 = .ok (.iadd, 1) := dq_96 (fd_r fcL_law (by decide +kernel))
theorem dL_law_878 : decode cL_law 878 = .ok (.iaload, 1) := dq_46 (fd_r fcL_law (by decide +kernel))
theorem dL_law_879 : decode cL_law 879 = .ok (.aload_n 0, 1) := dq_42 (fd_r fcL_law (by decide +kernel))
theorem dL_law_880 : decode cL_law 880 = .ok (.iload_n 3, 1) := dq_29 (fd_r fcL_law (by decide +kernel))
theorem dL_law_881 : decode cL_law 881 = .ok (.iconst 2, 1) := dq_5 (fd_r fcL_law (by decide +kernel))
theorem dL_law_882 : decode cL_law 882 = .ok (.iadd, 1) := dq_96 (fd_r fcL_law (by decide +kernel))
theorem dL_law_883 : decode cL_law 883 = .ok (.iaload, 1) := dq_46 (fd_r fcL_law (by decide +kernel))
theorem dL_law_884 : decode cL_law 884 = .ok (.invokevirtual 119, 3) := dq_182 (a := 0) (b := 119) (fd_r fcL_law (by decide +kernel)) rfl
theorem dL_law_887 : decode cL_law 887 = .ok (.pop, 1) := dq_87 (fd_r fcL_law (by decide +kernel))
theorem dL_law_888 : decode cL_law 888 = .ok (.aload_n 2, 1) := dq_44 (fd_r fcL_law (by decide +kernel))
theorem dL_law_889 : decode cL_law 889 = .ok (.aload_n 0, 1) := dq_42 (fd_r fcL_law (by decide +kernel))
theorem dL_law_890 : decode cL_law 890 = .ok (.iload_n 3, 1) := dq_29 (fd_r fcL_law (by decide +kernel))
theorem dL_law_891 : decode cL_law 891 = .ok (.iconst 1, 1) := dq_4 (fd_r fcL_law (by decide +kernel))
theorem dL_law_892 : decode cL_law 892 = .ok (.iadd, 1) := dq_96 (fd_r fcL_law (by decide +kernel))
theorem dL_law_893 : decode cL_law 893 = .ok (.iaload, 1) := dq_46 (fd_r fcL_law (by decide +kernel))
theorem dL_law_894 : decode cL_law 894 = .ok (.aload_n 0, 1) := dq_42 (fd_r fcL_law (by decide +kernel))
theorem dL_law_895 : decode cL_law 895 = .ok (.iload_n 3, 1) := dq_29 (fd_r fcL_law (by decide +kernel))
theorem dL_law_896 : decode cL_law 896 = .ok (.iconst 2, 1) := dq_5 (fd_r fcL_law (by decide +kernel))
theorem dL_law_897 : decode cL_law 897 = .ok (.iadd, 1) := dq_96 (fd_r fcL_law (by decide +kernel))
theorem dL_law_898 : decode cL_law 898 = .ok (.iaload, 1) := dq_46 (fd_r fcL_law (by decide +kernel))
theorem dL_law_899 : decode cL_law 899 = .ok (.invokevirtual 123, 3) := dq_182 (a := 0) (b := 123) (fd_r fcL_law (by decide +kernel)) rfl
theorem dL_law_902 : decode cL_law 902 = .ok (.pop, 1) := dq_87 (fd_r fcL_law (by decide +kernel))
theorem dL_law_903 : decode cL_law 903 = .ok (.goto 190, 3) := dq_167 (a := 0) (b := 190) (fd_r fcL_law (by decide +kernel)) rfl
theorem dL_law_906 : decode cL_law 906 = .ok (.aload_n 1, 1) := dq_43 (fd_r fcL_law (by decide +kernel))
theorem dL_law_907 : decode cL_law 907 = .ok (.aload_n 0, 1) := dq_42 (fd_r fcL_law (by decide +kernel))
theorem dL_law_908 : decode cL_law 908 = .ok (.iload_n 3, 1) := dq_29 (fd_r fcL_law (by decide +kernel))
theorem dL_law_909 : decode cL_law 909 = .ok (.iconst 1, 1) := dq_4 (fd_r fcL_law (by decide +kernel))
theorem dL_law_910 : decode cL_law 910 = .ok (.iadd, 1) := dq_96 (fd_r fcL_law (by decide +kernel))
theorem dL_law_911 : decode cL_law 911 = .ok (.iaload, 1) := dq_46 (fd_r fcL_law (by decide +kernel))
theorem dL_law_912 : decode cL_law 912 = .ok (.invokevirtual 124, 3) := dq_182 (a := 0) (b := 124) (fd_r fcL_law (by decide +kernel)) rfl
theorem dL_law_915 : decode cL_law 915 = .ok (.pop, 1) := dq_87 (fd_r fcL_law (by decide +kernel))
theorem dL_law_916 : decode cL_law 916 = .ok (.aload_n 2, 1) := dq_44 (fd_r fcL_law (by decide +kernel))
theorem dL_law_917 : decode cL_law 917 = .ok (.aload_n 0, 1) := dq_42 (fd_r fcL_law (by decide +kernel))
theorem dL_law_918 : decode cL_law 918 = .ok (.iload_n 3, 1) := dq_29 (fd_r fcL_law (by decide +kernel))
theorem dL_law_919 : decode cL_law 919 = .ok (.iconst 1, 1) := dq_4 (fd_r fcL_law (by decide +kernel))
theorem dL_law_920 : decode cL_law 920 = .ok (.iadd, 1) := dq_96 (fd_r fcL_law (by decide +kernel))
theorem dL_law_921 : decode cL_law 921 = .ok (.iaload, 1) := dq_46 (fd_r fcL_law (by decide +kernel))
theorem dL_law_922 : decode cL_law 922 = .ok (.invokevirtual 127, 3) := dq_182 (a := 0) (b := 127) (fd_r fcL_law (by decide +kernel)) rfl
theorem dL_law_925 : decode cL_law 925 = .ok (.pop, 1) := dq_87 (fd_r fcL_law (by decide +kernel))
theorem dL_law_926 : decode cL_law 926 = .ok (.goto 167, 3) := dq_167 (a := 0) (b := 167) (fd_r fcL_law (by decide +kernel)) rfl
theorem dL_law_929 : decode cL_law 929 = .ok (.aload_n 1, 1) := dq_43 (fd_r fcL_law (by decide +kernel))
theorem dL_law_930 : decode cL_law 930 = .ok (.aload_n 0, 1) := dq_42 (fd_r fcL_law (by decide +kernel))
theorem dL_law_931 : decode cL_law 931 = .ok (.iload_n 3, 1) := dq_29 (fd_r fcL_law (by decide +kernel))
theorem dL_law_932 : decode cL_law 932 = .ok (.iconst 1, 1) := dq_4 (fd_r fcL_law (by decide +kernel))
theorem dL_law_933 : decode cL_law 933 = .ok (.iadd, 1) := dq_96 (fd_r fcL_law (by decide +kernel))
theorem dL_law_934 : decode cL_law 934 = .ok (.iaload, 1) := dq_46 (fd_r fcL_law (by decide +kernel))
theorem dL_law_935 : decode cL_law 935 = .ok (.invokevirtual 128, 3) := dq_182 (a := 0) (b := 128) (fd_r fcL_law (by decide +kernel)) rfl
theorem dL_law_938 : decode cL_law 938 = .ok (.pop, 1) := dq_87 (fd_r fcL_law (by decide +kernel))
theorem dL_law_939 : decode cL_law 939 = .ok (.aload_n 2, 1) := dq_44 (fd_r fcL_law (by decide +kernel))
theorem dL_law_940 : decode cL_law 940 = .ok (.aload_n 0, 1) := dq_42 (fd_r fcL_law (by decide +kernel))
theorem dL_law_941 : decode cL_law 941 = .ok (.iload_n 3, 1) := dq_29 (fd_r fcL_law (by decide +kernel))
theorem dL_law_942 : decode cL_law 942 = .ok (.iconst 1, 1) := dq_4 (fd_r fcL_law (by decide +kernel))
theorem dL_law_943 : decode cL_law 943 = .ok (.iadd, 1) := dq_96 (fd_r fcL_law (by decide +kernel))
theorem dL_law_944 : decode cL_law 944 = .ok (.iaload, 1) := dq_46 (fd_r fcL_law (by decide +kernel))
theorem dL_law_945 : decode cL_law 945 = .ok (.invokevirtual 131, 3) := dq_182 (a := 0) (b := 131) (fd_r fcL_law (by decide +kernel)) rfl
theorem dL_law_948 : decode cL_law 948 = .ok (.pop, 1) := dq_87 (fd_r fcL_law (by decide +kernel))
theorem dL_law_949 : decode cL_law 949 = .ok (.goto 144, 3) := dq_167 (a := 0) (b := 144) (fd_r fcL_law (by decide +kernel)) rfl
theorem dL_law_952 : decode cL_law 952 = .ok (.aload_n 1, 1) := dq_43 (fd_r fcL_law (by decide +kernel))
theorem dL_law_953 : decode cL_law 953 = .ok (.aload_n 0, 1) := dq_42 (fd_r fcL_law (by decide +kernel))
theorem dL_law_954 : decode cL_law 954 = .ok (.iload_n 3, 1) := dq_29 (fd_r fcL_law (by decide +kernel))
theorem dL_law_955 : decode cL_law 955 = .ok (.iconst 1, 1) := dq_4 (fd_r fcL_law (by decide +kernel))
theorem dL_law_956 : decode cL_law 956 = .ok (.iadd, 1) := dq_96 (fd_r fcL_law (by decide +kernel))
theorem dL_law_957 : decode cL_law 957 = .ok (.iaload, 1) := dq_46 (fd_r fcL_law (by decide +kernel))
theorem dL_law_958 : decode cL_law 958 = .ok (.invokevirtual 132, 3) := dq_182 (a := 0) (b := 132) (fd_r fcL_law (by decide +kernel)) rfl
theorem dL_law_961 : decode cL_law 961 = .ok (.pop, 1) := dq_87 (fd_r fcL_law (by decide +kernel))
theorem dL_law_962 : decode cL_law 962 = .ok (.aload_n 2, 1) := dq_44 (fd_r fcL_law (by decide +kernel))
theorem dL_law_963 : decode cL_law 963 = .ok (.aload_n 0, 1) := dq_42 (fd_r fcL_law (by decide +kernel))
theorem dL_law_964 : decode cL_law 964 = .ok (.iload_n 3, 1) := dq_29 (fd_r fcL_law (by decide +kernel))
theorem dL_law_965 : decode cL_law 965 = .ok (.iconst 1, 1) := dq_4 (fd_r fcL_law (by decide +kernel))
theorem dL_law_966 : decode cL_law 966 = .ok (.iadd, 1) := dq_96 (fd_r fcL_law (by decide +kernel))
theorem dL_law_967 : decode cL_law 967 = .ok (.iaload, 1) := dq_46 (fd_r fcL_law (by decide +kernel))
theorem dL_law_968 : decode cL_law 968 = .ok (.invokevirtual 135, 3) := dq_182 (a := 0) (b := 135) (fd_r fcL_law (by decide +kernel)) rfl
theorem dL_law_971 : decode cL_law 971 = .ok (.pop, 1) := dq_87 (fd_r fcL_law (by decide +kernel))
theorem dL_law_972 : decode cL_law 972 = .ok (.goto 121, 3) := dq_167 (a := 0) (b := 121) (fd_r fcL_law (by decide +kernel)) rfl
theorem dL_law_975 : decode cL_law 975 = .ok (.aload_n 1, 1) := dq_43 (fd_r fcL_law (by decide +kernel))
theorem dL_law_976 : decode cL_law 976 = .ok (.invokevirtual 136, 3) := dq_182 (a := 0) (b := 136) (fd_r fcL_law (by decide +kernel)) rfl
theorem dL_law_979 : decode cL_law 979 = .ok (.pop, 1) := dq_87 (fd_r fcL_law (by decide +kernel))
theorem dL_law_980 : decode cL_law 980 = .ok (.aload_n 2, 1) := dq_44 (fd_r fcL_law (by decide +kernel))
theorem dL_law_981 : decode cL_law 981 = .ok (.invokevirtual 140, 3) := dq_182 (a := 0) (b := 140) (fd_r fcL_law (by decide +kernel)) rfl
theorem dL_law_984 : decode cL_law 984 = .ok (.pop, 1) := dq_87 (fd_r fcL_law (by decide +kernel))
theorem dL_law_985 : decode cL_law 985 = .ok (.goto 108, 3) := dq_167 (a := 0) (b := 108) (fd_r fcL_law (by decide +kernel)) rfl
theorem dL_law_988 : decode cL_law 988 = .ok (.aload_n 1, 1) := dq_43 (fd_r fcL_law (by decide +kernel))
theorem dL_law_989 : decode cL_law 989 = .ok (.aload_n 0, 1) := dq_42 (fd_r fcL_law (by decide +kernel))
theorem dL_law_990 : decode cL_law 990 = .ok (.iload_n 3, 1) := dq_29 (fd_r fcL_law (by decide +kernel))
theorem dL_law_991 : decode cL_law 991 = .ok (.iconst 1, 1) := dq_4 (fd_r fcL_law (by decide +kernel))
theorem dL_law_992 : decode cL_law 992 = .ok (.iadd, 1) := dq_96 (fd_r fcL_law (by decide +kernel))
theorem dL_law_993 : decode cL_law 993 = .ok (.iaload, 1) := dq_46 (fd_r fcL_law (by decide +kernel))
theorem dL_law_994 : decode cL_law 994 = .ok (.invokevirtual 141, 3) := dq_182 (a := 0) (b := 141) (fd_r fcL_law (by decide +kernel)) rfl
theorem dL_law_997 : decode cL_law 997 = .ok (.pop, 1) := dq_87 (fd_r fcL_law (by decide +kernel))
theorem dL_law_998 : decode cL_law 998 = .ok (.aload_n 2, 1) := dq_44 (fd_r fcL_law (by decide +kernel))
theorem dL_law_999 : decode cL_law 999 = .ok (.aload_n 0, 1) := dq_42 (fd_r fcL_law (by decide +kernel))
theorem dL_law_1000 : decode cL_law 1000 = .ok (.iload_n 3, 1) := dq_29 (fd_r fcL_law (by decide +kernel))
theorem dL_law_1001 : decode cL_law 1001 = .ok (.iconst 1, 1) := dq_4 (fd_r fcL_law (by decide +kernel))
theorem dL_law_1002 : decode cL_law 1002 = .ok (.iadd, 1) := dq_96 (fd_r fcL_law (by decide +kernel))
theorem dL_law_1003 : decode cL_law 1003 = .ok (.iaload, 1) := dq_46 (fd_r fcL_law (by decide +kernel))
theorem dL_law_1004 : decode cL_law 1004 = .ok (.invokevirtual 144, 3) := dq_182 (a := 0) (b := 144) (fd_r fcL_law (by decide +kernel)) rfl
theorem dL_law_1007 : decode cL_law 1007 = .ok (.pop, 1) := dq_87 (fd_r fcL_law (by decide +kernel))
theorem dL_law_1008 : decode cL_law 1008 = .ok (.goto 85, 3) := dq_167 (a := 0) (b := 85) (fd_r fcL_law (by decide +kernel)) rfl
theorem dL_law_1011 : decode cL_law 1011 = .ok (.aload_n 1, 1) := dq_43 (fd_r fcL_law (by decide +kernel))
theorem dL_law_1012 : decode cL_law 1012 = .ok (.aload_n 0, 1) := dq_42 (fd_r fcL_law (by decide +kernel))
theorem dL_law_1013 : decode cL_law 1013 = .ok (.iload_n 3, 1) := dq_29 (fd_r fcL_law (by decide +kernel))
theorem dL_law_1014 : decode cL_law 1014 = .ok (.iconst 1, 1) := dq_4 (fd_r fcL_law (by decide +kernel))
theorem dL_law_1015 : decode cL_law 1015 = .ok (.iadd, 1) := dq_96 (fd_r fcL_law (by decide +kernel))
theorem dL_law_1016 : decode cL_law 1016 = .ok (.iaload, 1) := dq_46 (fd_r fcL_law (by decide +kernel))
theorem dL_law_1017 : decode cL_law 1017 = .ok (.aload_n 0, 1) := dq_42 (fd_r fcL_law (by decide +kernel))
theorem dL_law_1018 : decode cL_law 1018 = .ok (.iload_n 3, 1) := dq_29 (fd_r fcL_law (by decide +kernel))
theorem dL_law_1019 : decode cL_law 1019 = .ok (.iconst 2, 1) := dq_5 (fd_r fcL_law (by decide +kernel))
theorem dL_law_1020 : decode cL_law 1020 = .ok (.iadd, 1) := dq_96 (fd_r fcL_law (by decide +kernel))
theorem dL_law_1021 : decode cL_law 1021 = .ok (.iaload, 1) := dq_46 (fd_r fcL_law (by decide +kernel))
theorem dL_law_1022 : decode cL_law 1022 = .ok (.invokevirtual 145, 3) := dq_182 (a := 0) (b := 145) (fd_r fcL_law (by decide +kernel)) rfl
theorem dL_law_1025 : decode cL_law 1025 = .ok (.pop, 1) := dq_87 (fd_r fcL_law (by decide +kernel))
theorem dL_law_1026 : decode cL_law 1026 = .ok (.aload_n 2, 1) := dq_44 (fd_r fcL_law (by decide +kernel))
theorem dL_law_1027 : decode cL_law 1027 = .ok (.aload_n 0, 1) := dq_42 (fd_r fcL_law (by decide +kernel))
theorem dL_law_1028 : decode cL_law 1028 = .ok (.iload_n 3, 1) := dq_29 (fd_r fcL_law (by decide +kernel))
theorem dL_law_1029 : decode cL_law 1029 = .ok (.iconst 1, 1) := dq_4 (fd_r fcL_law (by decide +kernel))
theorem dL_law_1030 : decode cL_law 1030 = .ok (.iadd, 1) := dq_96 (fd_r fcL_law (by decide +kernel))
theorem dL_law_1031 : decode cL_law 1031 = .ok (.iaload, 1) := dq_46 (fd_r fcL_law (by decide +kernel))
theorem dL_law_1032 : decode cL_law 1032 = .ok (.aload_n 0, 1) := dq_42 (fd_r fcL_law (by decide +kernel))
theorem dL_law_1033 : decode cL_law 1033 = .ok (.iload_n 3, 1) := dq_29 (fd_r fcL_law (by decide +kernel))
theorem dL_law_1034 : decode cL_law 1034 = .ok (.iconst 2, 1) := dq_5 (fd_r fcL_law (by decide +kernel))
theorem dL_law_1035 : decode cL_law 1035 = .ok (.iadd, 1) := dq_96 (fd_r fcL_law (by decide +kernel))
theorem dL_law_1036 : decode cL_law 1036 = .ok (.iaload, 1) := dq_46 (fd_r fcL_law (by decide +kernel))
theorem dL_law_1037 : decode cL_law 1037 = .ok (.invokevirtual 148, 3) := dq_182 (a := 0) (b := 148) (fd_r fcL_law (by decide +kernel)) rfl
theorem dL_law_1040 : decode cL_law 1040 = .ok (.pop, 1) := dq_87 (fd_r fcL_law (by decide +kernel))
theorem dL_law_1041 : decode cL_law 1041 = .ok (.goto 52, 3) := dq_167 (a := 0) (b := 52) (fd_r fcL_law (by decide +kernel)) rfl
theorem dL_law_1044 : decode cL_law 1044 = .ok (.aload_n 1, 1) := dq_43 (fd_r fcL_law (by decide +kernel))
theorem dL_law_1045 : decode cL_law 1045 = .ok (.invokevirtual 149, 3) := dq_182 (a := 0) (b := 149) (fd_r fcL_law (by decide +kernel)) rfl
theorem dL_law_1048 : decode cL_law 1048 = .ok (.pop, 1) := dq_87 (fd_r fcL_law (by decide +kernel))
theorem dL_law_1049 : decode cL_law 1049 = .ok (.aload_n 2, 1) := dq_44 (fd_r fcL_law (by decide +kernel))
theorem dL_law_1050 : decode cL_law 1050 = .ok (.invokevirtual 152, 3) := dq_182 (a := 0) (b := 152) (fd_r fcL_law (by decide +kernel)) rfl
theorem dL_law_1053 : decode cL_law 1053 = .ok (.pop, 1) := dq_87 (fd_r fcL_law (by decide +kernel))
theorem dL_law_1054 : decode cL_law 1054 = .ok (.goto 39, 3) := dq_167 (a := 0) (b := 39) (fd_r fcL_law (by decide +kernel)) rfl
theorem dL_law_1057 : decode cL_law 1057 = .ok (.aload_n 1, 1) := dq_43 (fd_r fcL_law (by decide +kernel))
theorem dL_law_1058 : decode cL_law 1058 = .ok (.invokevirtual 153, 3) := dq_182 (a := 0) (b := 153) (fd_r fcL_law (by decide +kernel)) rfl
theorem dL_law_1061 : decode cL_law 1061 = .ok (.pop, 1) := dq_87 (fd_r fcL_law (by decide +kernel))
theorem dL_law_1062 : decode cL_law 1062 = .ok (.aload_n 2, 1) := dq_44 (fd_r fcL_law (by decide +kernel))
theorem dL_law_1063 : decode cL_law 1063 = .ok (.invokevirtual 156, 3) := dq_182 (a := 0) (b := 156) (fd_r fcL_law (by decide +kernel)) rfl
theorem dL_law_1066 : decode cL_law 1066 = .ok (.pop, 1) := dq_87 (fd_r fcL_law (by decide +kernel))
theorem dL_law_1067 : decode cL_law 1067 = .ok (.goto 26, 3) := dq_167 (a := 0) (b := 26) (fd_r fcL_law (by decide +kernel)) rfl
theorem dL_law_1070 : decode cL_law 1070 = .ok (.aload_n 1, 1) := dq_43 (fd_r fcL_law (by decide +kernel))
theorem dL_law_1071 : decode cL_law 1071 = .ok (.aload_n 0, 1) := dq_42 (fd_r fcL_law (by decide +kernel))
theorem dL_law_1072 : decode cL_law 1072 = .ok (.iload_n 3, 1) := dq_29 (fd_r fcL_law (by decide +kernel))
theorem dL_law_1073 : decode cL_law 1073 = .ok (.iconst 1, 1) := dq_4 (fd_r fcL_law (by decide +kernel))
theorem dL_law_1074 : decode cL_law 1074 = .ok (.iadd, 1) := dq_96 (fd_r fcL_law (by decide +kernel))
theorem dL_law_1075 : decode cL_law 1075 = .ok (.iaload, 1) := dq_46 (fd_r fcL_law (by decide +kernel))
theorem dL_law_1076 : decode cL_law 1076 = .ok (.invokevirtual 157, 3) := dq_182 (a := 0) (b := 157) (fd_r fcL_law (by decide +kernel)) rfl
theorem dL_law_1079 : decode cL_law 1079 = .ok (.pop, 1) := dq_87 (fd_r fcL_law (by decide +kernel))
theorem dL_law_1080 : decode cL_law 1080 = .ok (.aload_n 2, 1) := dq_44 (fd_r fcL_law (by decide +kernel))
theorem dL_law_1081 : decode cL_law 1081 = .ok (.aload_n 0, 1) := dq_42 (fd_r fcL_law (by decide +kernel))
theorem dL_law_1082 : decode cL_law 1082 = .ok (.iload_n 3, 1) := dq_29 (fd_r fcL_law (by decide +kernel))
theorem dL_law_1083 : decode cL_law 1083 = .ok (.iconst 1, 1) := dq_4 (fd_r fcL_law (by decide +kernel))
theorem dL_law_1084 : decode cL_law 1084 = .ok (.iadd, 1) := dq_96 (fd_r fcL_law (by decide +kernel))
theorem dL_law_1085 : decode cL_law 1085 = .ok (.iaload, 1) := dq_46 (fd_r fcL_law (by decide +kernel))
theorem dL_law_1086 : decode cL_law 1086 = .ok (.invokevirtual 160, 3) := dq_182 (a := 0) (b := 160) (fd_r fcL_law (by decide +kernel)) rfl
theorem dL_law_1089 : decode cL_law 1089 = .ok (.pop, 1) := dq_87 (fd_r fcL_law (by decide +kernel))
theorem dL_law_1090 : decode cL_law 1090 = .ok (.goto 3, 3) := dq_167 (a := 0) (b := 3) (fd_r fcL_law (by decide +kernel)) rfl
theorem dL_law_1093 : decode cL_law 1093 = .ok (.iinc 3 6, 3) := dq_132 (a := 3) (b := 6) (fd_r fcL_law (by decide +kernel)) rfl
theorem dL_law_1096 : decode cL_law 1096 = .ok (.goto (-1078), 3) := dq_167 (a := 251) (b := 202) (fd_r fcL_law (by decide +kernel)) rfl
theorem dL_law_1099 : decode cL_law 1099 = .ok (.iconst 1, 1) := dq_4 (fd_r fcL_law (by decide +kernel))
theorem dL_law_1100 : decode cL_law 1100 = .ok (.ireturn, 1) := dq_172 (fd_r fcL_law (by decide +kernel))
end
end
