theorem dX12_setIn_16 : decode cX12_setIn 16 = .ok (.iload_n 1, 1) := by decide +kernel
theorem dX12_setIn_17 : decode cX12_setIn 17 = .ok (.imul, 1) := by decide +kernel
theorem dX12_setIn_18 : decode cX12_setIn 18 = .ok (.iload_n 2, 1) := by decide +kernel
theorem dX12_setIn_19 : decode cX12_setIn 19 = .ok (.iadd, 1) := by decide +kernel
theorem dX12_setIn_20 : decode cX12_setIn 20 = .ok (.iaload, 1) := by decide +kernel
theorem dX12_setIn_21 : decode cX12_setIn 21 = .ok (.iadd, 1) := by decide +kernel
theorem dX12_setIn_22 : decode cX12_setIn 22 = .ok (.iaload, 1) := by decide +kernel
theorem dX12_setIn_23 : decode cX12_setIn 23 = .ok (.ireturn, 1) := by decide +kernel
theorem dX12_fitting_0 : decode cX12_fitting 0 = .ok (.aload_n 0, 1) := by decide +kernel
theorem dX12_fitting_1 : decode cX12_fitting 1 = .ok (.iload_n 1, 1) := by decide +kernel
theorem dX12_fitting_2 : decode cX12_fitting 2 = .ok (.invokevirtual 478, 3) := by decide +kernel
theorem dX12_fitting_5 : decode cX12_fitting 5 = .ok (.iconst 1, 1) := by decide +kernel
theorem dX12_fitting_6 : decode cX12_fitting 6 = .ok (.aload_n 0, 1) := by decide +kernel
theorem dX12_fitting_7 : decode cX12_fitting 7 = .ok (.getfield 200, 3) := by decide +kernel
theorem dX12_fitting_10 : decode cX12_fitting 10 = .ok (.ishl, 1) := by decide +kernel
theorem dX12_fitting_11 : decode cX12_fitting 11 = .ok (.iconst 1, 1) := by decide +kernel
theorem dX12_fitting_12 : decode cX12_fitting 12 = .ok (.isub, 1) := by decide +kernel
theorem dX12_fitting_13 : decode cX12_fitting 13 = .ok (.istore_n 2, 1) := by decide +kernel
theorem dX12_fitting_14 : decode cX12_fitting 14 = .ok (.iconst 0, 1) := by decide +kernel
theorem dX12_fitting_15 : decode cX12_fitting 15 = .ok (.istore_n 3, 1) := by decide +kernel
theorem dX12_fitting_16 : decode cX12_fitting 16 = .ok (.iload_n 3, 1) := by decide +kernel
theorem dX12_fitting_17 : decode cX12_fitting 17 = .ok (.aload_n 0, 1) := by decide +kernel
theorem dX12_fitting_18 : decode cX12_fitting 18 = .ok (.invokevirtual 459, 3) := by decide +kernel
theorem dX12_fitting_21 : decode cX12_fitting 21 = .ok (.if_icmp .ge 23, 3) := by decide +kernel
theorem dX12_fitting_24 : decode cX12_fitting 24 = .ok (.iload_n 2, 1) := by decide +kernel
theorem dX12_fitting_25 : decode cX12_fitting 25 = .ok (.aload_n 0, 1) := by decide +kernel
theorem dX12_fitting_26 : decode cX12_fitting 26 = .ok (.iload_n 3, 1) := by decide +kernel
theorem dX12_fitting_27 : decode cX12_fitting 27 = .ok (.aload_n 0, 1) := by decide +kernel
theorem dX12_fitting_28 : decode cX12_fitting 28 = .ok (.getfield 215, 3) := by decide +kernel
theorem dX12_fitting_31 : decode cX12_fitting 31 = .ok (.iload_n 3, 1) := by decide +kernel
theorem dX12_fitting_32 : decode cX12_fitting 32 = .ok (.iaload, 1) := by decide +kernel
theorem dX12_fitting_33 : decode cX12_fitting 33 = .ok (.invokevirtual 481, 3) := by decide +kernel
theorem dX12_fitting_36 : decode cX12_fitting 36 = .ok (.iand, 1) := by decide +kernel
theorem dX12_fitting_37 : decode cX12_fitting 37 = .ok (.istore_n 2, 1) := by decide +kernel
theorem dX12_fitting_38 : decode cX12_fitting 38 = .ok (.iinc 3 1, 3) := by decide +kernel
theorem dX12_fitting_41 : decode cX12_fitting 41 = .ok (.goto (-25), 3) := by decide +kernel
theorem dX12_fitting_44 : decode cX12_fitting 44 = .ok (.iload_n 2, 1) := by decide +kernel
theorem dX12_fitting_45 : decode cX12_fitting 45 = .ok (.ireturn, 1) := by decide +kernel
theorem dX12_countsRows_0 : decode cX12_countsRows 0 = .ok (.iconst 0, 1) := by decide +kernel
theorem dX12_countsRows_1 : decode cX12_countsRows 1 = .ok (.istore_n 1, 1) := by decide +kernel
theorem dX12_countsRows_2 : decode cX12_countsRows 2 = .ok (.iload_n 1, 1) := by decide +kernel
theorem dX12_countsRows_3 : decode cX12_countsRows 3 = .ok (.sipush 4096, 3) := by decide +kernel
theorem dX12_countsRows_6 : decode cX12_countsRows 6 = .ok (.if_icmp .ge 16, 3) := by decide +kernel
theorem dX12_countsRows_9 : decode cX12_countsRows 9 = .ok (.aload_n 0, 1) := by decide +kernel
theorem dX12_countsRows_10 : decode cX12_countsRows 10 = .ok (.getfield 218, 3) := by decide +kernel
theorem dX12_countsRows_13 : decode cX12_countsRows 13 = .ok (.iload_n 1, 1) := by decide +kernel
theorem dX12_countsRows_14 : decode cX12_countsRows 14 = .ok (.iconst 0, 1) := by decide +kernel
theorem dX12_countsRows_15 : decode cX12_countsRows 15 = .ok (.iastore, 1) := by decide +kernel
theorem dX12_countsRows_16 : decode cX12_countsRows 16 = .ok (.iinc 1 1, 3) := by decide +kernel
theorem dX12_countsRows_19 : decode cX12_countsRows 19 = .ok (.goto (-17), 3) := by decide +kernel
theorem dX12_countsRows_22 : decode cX12_countsRows 22 = .ok (.iconst 0, 1) := by decide +kernel
theorem dX12_countsRows_23 : decode cX12_countsRows 23 = .ok (.istore_n 1, 1) := by decide +kernel
theorem dX12_countsRows_24 : decode cX12_countsRows 24 = .ok (.iload_n 1, 1) := by decide +kernel
theorem dX12_countsRows_25 : decode cX12_countsRows 25 = .ok (.aload_n 0, 1) := by decide +kernel
theorem dX12_countsRows_26 : decode cX12_countsRows 26 = .ok (.getfield 170, 3) := by decide +kernel
theorem dX12_countsRows_29 : decode cX12_countsRows 29 = .ok (.if_icmp .ge 23, 3) := by decide +kernel
theorem dX12_countsRows_32 : decode cX12_countsRows 32 = .ok (.aload_n 0, 1) := by decide +kernel
theorem dX12_countsRows_33 : decode cX12_countsRows 33 = .ok (.getfield 218, 3) := by decide +kernel
theorem dX12_countsRows_36 : decode cX12_countsRows 36 = .ok (.aload_n 0, 1) := by decide +kernel
theorem dX12_countsRows_37 : decode cX12_countsRows 37 = .ok (.iload_n 1, 1) := by decide +kernel
theorem dX12_countsRows_38 : decode cX12_countsRows 38 = .ok (.invokevirtual 484, 3) := by decide +kernel
theorem dX12_countsRows_41 : decode cX12_countsRows 41 = .ok (.dup2, 1) := by decide +kernel
theorem dX12_countsRows_42 : decode cX12_countsRows 42 = .ok (.iaload, 1) := by decide +kernel
theorem dX12_countsRows_43 : decode cX12_countsRows 43 = .ok (.iconst 1, 1) := by decide +kernel
theorem dX12_countsRows_44 : decode cX12_countsRows 44 = .ok (.iadd, 1) := by decide +kernel
theorem dX12_countsRows_45 : decode cX12_countsRows 45 = .ok (.iastore, 1) := by decide +kernel
theorem dX12_countsRows_46 : decode cX12_countsRows 46 = .ok (.iinc 1 1, 3) := by decide +kernel
theorem dX12_countsRows_49 : decode cX12_countsRows 49 = .ok (.goto (-25), 3) := by decide +kernel
theorem dX12_countsRows_52 : decode cX12_countsRows 52 = .ok (.return_, 1) := by decide +kernel
theorem dX12_has_0 : decode cX12_has 0 = .ok (.iload_n 1, 1) := by decide +kernel
theorem dX12_has_1 : decode cX12_has 1 = .ok (.tableswitch 144 0 10 #[59, 69, 79, 84, 100, 107, 114, 121, 128, 133, 138], 59) := by decide +kernel
theorem dX12_has_60 : decode cX12_has 60 = .ok (.aload_n 0, 1) := by decide +kernel
theorem dX12_has_61 : decode cX12_has 61 = .ok (.getfield 54, 3) := by decide +kernel
theorem dX12_has_64 : decode cX12_has 64 = .ok (.aload_n 0, 1) := by decide +kernel
theorem dX12_has_65 : decode cX12_has 65 = .ok (.getfield 51, 3) := by decide +kernel
theorem dX12_has_68 : decode cX12_has 68 = .ok (.iaload, 1) := by decide +kernel
theorem dX12_has_69 : decode cX12_has 69 = .ok (.ireturn, 1) := by decide +kernel
theorem dX12_has_70 : decode cX12_has 70 = .ok (.aload_n 0, 1) := by decide +kernel
theorem dX12_has_71 : decode cX12_has 71 = .ok (.getfield 63, 3) := by decide +kernel
theorem dX12_has_74 : decode cX12_has 74 = .ok (.aload_n 0, 1) := by decide +kernel
theorem dX12_has_75 : decode cX12_has 75 = .ok (.getfield 51, 3) := by decide +kernel
theorem dX12_has_78 : decode cX12_has 78 = .ok (.iaload, 1) := by decide +kernel
theorem dX12_has_79 : decode cX12_has 79 = .ok (.ireturn, 1) := by decide +kernel
theorem dX12_has_80 : decode cX12_has 80 = .ok (.aload_n 0, 1) := by decide +kernel
theorem dX12_has_81 : decode cX12_has 81 = .ok (.invokevirtual 459, 3) := by decide +kernel
theorem dX12_has_84 : decode cX12_has 84 = .ok (.ireturn, 1) := by decide +kernel
theorem dX12_has_85 : decode cX12_has 85 = .ok (.aload_n 0, 1) := by decide +kernel
theorem dX12_has_86 : decode cX12_has 86 = .ok (.getfield 146, 3) := by decide +kernel
theorem dX12_has_89 : decode cX12_has 89 = .ok (.ifCond .eq 10, 3) := by decide +kernel
theorem dX12_has_92 : decode cX12_has 92 = .ok (.aload_n 0, 1) := by decide +kernel
theorem dX12_has_93 : decode cX12_has 93 = .ok (.getfield 170, 3) := by decide +kernel
theorem dX12_has_96 : decode cX12_has 96 = .ok (.goto 4, 3) := by decide +kernel
theorem dX12_has_99 : decode cX12_has 99 = .ok (.iconst 0, 1) := by decide +kernel
theorem dX12_has_100 : decode cX12_has 100 = .ok (.ireturn, 1) := by decide +kernel
theorem dX12_has_101 : decode cX12_has 101 = .ok (.aload_n 0, 1) := by decide +kernel
theorem dX12_has_102 : decode cX12_has 102 = .ok (.getfield 173, 3) := by decide +kernel
theorem dX12_has_105 : decode cX12_has 105 = .ok (.iconst 0, 1) := by decide +kernel
theorem dX12_has_106 : decode cX12_has 106 = .ok (.iaload, 1) := by decide +kernel
theorem dX12_has_107 : decode cX12_has 107 = .ok (.ireturn, 1) := by decide +kernel
theorem dX12_has_108 : decode cX12_has 108 = .ok (.aload_n 0, 1) := by decide +kernel
theorem dX12_has_109 : decode cX12_has 109 = .ok (.getfield 179, 3) := by decide +kernel
theorem dX12_has_112 : decode cX12_has 112 = .ok (.iconst 0, 1) := by decide +kernel
theorem dX12_has_113 : decode cX12_has 113 = .ok (.iaload, 1) := by decide +kernel
theorem dX12_has_114 : decode cX12_has 114 = .ok (.ireturn, 1) := by decide +kernel
theorem dX12_has_115 : decode cX12_has 115 = .ok (.aload_n 0, 1) := by decide +kernel
theorem dX12_has_116 : decode cX12_has 116 = .ok (.getfield 182, 3) := by decide +kernel
theorem dX12_has_119 : decode cX12_has 119 = .ok (.iconst 0, 1) := by decide +kernel
theorem dX12_has_120 : decode cX12_has 120 = .ok (.iaload, 1) := by decide +kernel
theorem dX12_has_121 : decode cX12_has 121 = .ok (.ireturn, 1) := by decide +kernel
theorem dX12_has_122 : decode cX12_has 122 = .ok (.aload_n 0, 1) := by decide +kernel
theorem dX12_has_123 : decode cX12_has 123 = .ok (.getfield 185, 3) := by decide +kernel
theorem dX12_has_126 : decode cX12_has 126 = .ok (.iconst 0, 1) := by decide +kernel
theorem dX12_has_127 : decode cX12_has 127 = .ok (.iaload, 1) := by decide +kernel
theorem dX12_has_128 : decode cX12_has 128 = .ok (.ireturn, 1) := by decide +kernel
theorem dX12_has_129 : decode cX12_has 129 = .ok (.aload_n 0, 1) := by decide +kernel
theorem dX12_has_130 : decode cX12_has 130 = .ok (.getfield 291, 3) := by decide +kernel
theorem dX12_has_133 : decode cX12_has 133 = .ok (.ireturn, 1) := by decide +kernel
theorem dX12_has_134 : decode cX12_has 134 = .ok (.aload_n 0, 1) := by decide +kernel
theorem dX12_has_135 : decode cX12_has 135 = .ok (.getfield 194, 3) := by decide +kernel
theorem dX12_has_138 : decode cX12_has 138 = .ok (.ireturn, 1) := by decide +kernel
theorem dX12_has_139 : decode cX12_has 139 = .ok (.aload_n 0, 1) := by decide +kernel
theorem dX12_has_140 : decode cX12_has 140 = .ok (.getfield 197, 3) := by decide +kernel
theorem dX12_has_143 : decode cX12_has 143 = .ok (.l2i, 1) := by decide +kernel
theorem dX12_has_144 : decode cX12_has 144 = .ok (.ireturn, 1) := by decide +kernel
theorem dX12_has_145 : decode cX12_has 145 = .ok (.iconst (-1), 1) := by decide +kernel
theorem dX12_has_146 : decode cX12_has 146 = .ok (.ireturn, 1) := by decide +kernel
theorem dX12_lettersOf_0 : decode cX12_lettersOf 0 = .ok (.iconst 0, 1) := by decide +kernel
theorem dX12_lettersOf_1 : decode cX12_lettersOf 1 = .ok (.istore_n 2, 1) := by decide +kernel
theorem dX12_lettersOf_2 : decode cX12_lettersOf 2 = .ok (.lload_n 0, 1) := by decide +kernel
theorem dX12_lettersOf_3 : decode cX12_lettersOf 3 = .ok (.lstore_n 3, 1) := by decide +kernel
theorem dX12_lettersOf_4 : decode cX12_lettersOf 4 = .ok (.lload_n 3, 1) := by decide +kernel
theorem dX12_lettersOf_5 : decode cX12_lettersOf 5 = .ok (.lconst 0, 1) := by decide +kernel
theorem dX12_lettersOf_6 : decode cX12_lettersOf 6 = .ok (.lcmp, 1) := by decide +kernel
theorem dX12_lettersOf_7 : decode cX12_lettersOf 7 = .ok (.ifCond .le 14, 3) := by decide +kernel
theorem dX12_lettersOf_10 : decode cX12_lettersOf 10 = .ok (.iinc 2 1, 3) := by decide +kernel
theorem dX12_lettersOf_13 : decode cX12_lettersOf 13 = .ok (.lload_n 3, 1) := by decide +kernel
theorem dX12_lettersOf_14 : decode cX12_lettersOf 14 = .ok (.bipush 8, 2) := by decide +kernel
theorem dX12_lettersOf_16 : decode cX12_lettersOf 16 = .ok (.lshr, 1) := by decide +kernel
theorem dX12_lettersOf_17 : decode cX12_lettersOf 17 = .ok (.lstore_n 3, 1) := by decide +kernel
theorem dX12_lettersOf_18 : decode cX12_lettersOf 18 = .ok (.goto (-14), 3) := by decide +kernel
theorem dX12_lettersOf_21 : decode cX12_lettersOf 21 = .ok (.iload_n 2, 1) := by decide +kernel
theorem dX12_lettersOf_22 : decode cX12_lettersOf 22 = .ok (.ireturn, 1) := by decide +kernel
theorem dX12_letter_0 : decode cX12_letter 0 = .ok (.iload_n 3, 1) := by decide +kernel
theorem dX12_letter_1 : decode cX12_letter 1 = .ok (.iconst 0, 1) := by decide +kernel
theorem dX12_letter_2 : decode cX12_letter 2 = .ok (.iconst 5, 1) := by decide +kernel
theorem dX12_letter_3 : decode cX12_letter 3 = .ok (.invokestatic 362, 3) := by decide +kernel
theorem dX12_letter_6 : decode cX12_letter 6 = .ok (.ifCond .eq 47, 3) := by decide +kernel
theorem dX12_letter_9 : decode cX12_letter 9 = .ok (.iload_n 1, 1) := by decide +kernel
theorem dX12_letter_10 : decode cX12_letter 10 = .ok (.iconst 0, 1) := by decide +kernel
theorem dX12_letter_11 : decode cX12_letter 11 = .ok (.iconst 1, 1) := by decide +kernel
theorem dX12_letter_12 : decode cX12_letter 12 = .ok (.invokestatic 362, 3) := by decide +kernel
theorem dX12_letter_15 : decode cX12_letter 15 = .ok (.ifCond .eq 38, 3) := by decide +kernel
theorem dX12_letter_18 : decode cX12_letter 18 = .ok (.iload_n 2, 1) := by decide +kernel
theorem dX12_letter_19 : decode cX12_letter 19 = .ok (.iconst 0, 1) := by decide +kernel
theorem dX12_letter_20 : decode cX12_letter 20 = .ok (.iload_n 1, 1) := by decide +kernel
theorem dX12_letter_21 : decode cX12_letter 21 = .ok (.ifCond .ne 15, 3) := by decide +kernel
theorem dX12_letter_24 : decode cX12_letter 24 = .ok (.aload_n 0, 1) := by decide +kernel
theorem dX12_letter_25 : decode cX12_letter 25 = .ok (.getfield 54, 3) := by decide +kernel
theorem dX12_letter_28 : decode cX12_letter 28 = .ok (.aload_n 0, 1) := by decide +kernel
theorem dX12_letter_29 : decode cX12_letter 29 = .ok (.getfield 51, 3) := by decide +kernel
theorem dX12_letter_32 : decode cX12_letter 32 = .ok (.iaload, 1) := by decide +kernel
theorem dX12_letter_33 : decode cX12_letter 33 = .ok (.goto 12, 3) := by decide +kernel
theorem dX12_letter_36 : decode cX12_letter 36 = .ok (.aload_n 0, 1) := by decide +kernel
theorem dX12_letter_37 : decode cX12_letter 37 = .ok (.getfield 63, 3) := by decide +kernel
theorem dX12_letter_40 : decode cX12_letter 40 = .ok (.aload_n 0, 1) := by decide +kernel
theorem dX12_letter_41 : decode cX12_letter 41 = .ok (.getfield 51, 3) := by decide +kernel
theorem dX12_letter_44 : decode cX12_letter 44 = .ok (.iaload, 1) := by decide +kernel
theorem dX12_letter_45 : decode cX12_letter 45 = .ok (.iconst 1, 1) := by decide +kernel
theorem dX12_letter_46 : decode cX12_letter 46 = .ok (.isub, 1) := by decide +kernel
theorem dX12_letter_47 : decode cX12_letter 47 = .ok (.invokestatic 362, 3) := by decide +kernel
theorem dX12_letter_50 : decode cX12_letter 50 = .ok (.ifCond .ne 5, 3) := by decide +kernel
theorem dX12_letter_53 : decode cX12_letter 53 = .ok (.iconst (-1), 1) := by decide +kernel
theorem dX12_letter_54 : decode cX12_letter 54 = .ok (.ireturn, 1) := by decide +kernel
theorem dX12_letter_55 : decode cX12_letter 55 = .ok (.iload_n 1, 1) := by decide +kernel
theorem dX12_letter_56 : decode cX12_letter 56 = .ok (.ifCond .ne 19, 3) := by decide +kernel
theorem dX12_letter_59 : decode cX12_letter 59 = .ok (.aload_n 0, 1) := by decide +kernel
theorem dX12_letter_60 : decode cX12_letter 60 = .ok (.getfield 114, 3) := by decide +kernel
theorem dX12_letter_63 : decode cX12_letter 63 = .ok (.iconst 4, 1) := by decide +kernel
theorem dX12_letter_64 : decode cX12_letter 64 = .ok (.aload_n 0, 1) := by decide +kernel
theorem dX12_letter_65 : decode cX12_letter 65 = .ok (.getfield 51, 3) := by decide +kernel
theorem dX12_letter_68 : decode cX12_letter 68 = .ok (.imul, 1) := by decide +kernel
theorem dX12_letter_69 : decode cX12_letter 69 = .ok (.iload_n 2, 1) := by decide +kernel
theorem dX12_letter_70 : decode cX12_letter 70 = .ok (.iadd, 1) := by decide +kernel
theorem dX12_letter_71 : decode cX12_letter 71 = .ok (.laload, 1) := by decide +kernel
theorem dX12_letter_72 : decode cX12_letter 72 = .ok (.goto 17, 3) := by decide +kernel
theorem dX12_letter_75 : decode cX12_letter 75 = .ok (.aload_n 0, 1) := by decide +kernel
theorem dX12_letter_76 : decode cX12_letter 76 = .ok (.getfield 118, 3) := by decide +kernel
theorem dX12_letter_79 : decode cX12_letter 79 = .ok (.bipush 24, 2) := by decide +kernel
theorem dX12_letter_81 : decode cX12_letter 81 = .ok (.aload_n 0, 1) := by decide +kernel
theorem dX12_letter_82 : decode cX12_letter 82 = .ok (.getfield 51, 3) := by decide +kernel
theorem dX12_letter_85 : decode cX12_letter 85 = .ok (.imul, 1) := by decide +kernel
theorem dX12_letter_86 : decode cX12_letter 86 = .ok (.iload_n 2, 1) := by decide +kernel
theorem dX12_letter_87 : decode cX12_letter 87 = .ok (.iadd, 1) := by decide +kernel
theorem dX12_letter_88 : decode cX12_letter 88 = .ok (.laload, 1) := by decide +kernel
theorem dX12_letter_89 : decode cX12_letter 89 = .ok (.lstore 4, 2) := by decide +kernel
theorem dX12_letter_91 : decode cX12_letter 91 = .ok (.lload 4, 2) := by decide +kernel
theorem dX12_letter_93 : decode cX12_letter 93 = .ok (.invokestatic 487, 3) := by decide +kernel
theorem dX12_letter_96 : decode cX12_letter 96 = .ok (.istore 6, 2) := by decide +kernel
theorem dX12_letter_98 : decode cX12_letter 98 = .ok (.iload_n 3, 1) := by decide +kernel
theorem dX12_letter_99 : decode cX12_letter 99 = .ok (.iload 6, 2) := by decide +kernel
theorem dX12_letter_101 : decode cX12_letter 101 = .ok (.if_icmp .lt 7, 3) := by decide +kernel
theorem dX12_letter_104 : decode cX12_letter 104 = .ok (.iconst 0, 1) := by decide +kernel
theorem dX12_letter_105 : decode cX12_letter 105 = .ok (.goto 25, 3) := by decide +kernel
theorem dX12_letter_108 : decode cX12_letter 108 = .ok (.lload 4, 2) := by decide +kernel
theorem dX12_letter_110 : decode cX12_letter 110 = .ok (.bipush 8, 2) := by decide +kernel
theorem dX12_letter_112 : decode cX12_letter 112 = .ok (.iload 6, 2) := by decide +kernel
theorem dX12_letter_114 : decode cX12_letter 114 = .ok (.iconst 1, 1) := by decide +kernel
theorem dX12_letter_115 : decode cX12_letter 115 = .ok (.isub, 1) := by decide +kernel
theorem dX12_letter_116 : decode cX12_letter 116 = .ok (.iload_n 3, 1) := by decide +kernel
theorem dX12_letter_117 : decode cX12_letter 117 = .ok (.isub, 1) := by decide +kernel
theorem dX12_letter_118 : decode cX12_letter 118 = .ok (.imul, 1) := by decide +kernel
theorem dX12_letter_119 : decode cX12_letter 119 = .ok (.lshr, 1) := by decide +kernel
theorem dX12_letter_120 : decode cX12_letter 120 = .ok (.ldc2_w 490, 3) := by decide +kernel
theorem dX12_letter_123 : decode cX12_letter 123 = .ok (.land, 1) := by decide +kernel
theorem dX12_letter_124 : decode cX12_letter 124 = .ok (.l2i, 1) := by decide +kernel
theorem dX12_letter_125 : decode cX12_letter 125 = .ok (.bipush 97, 2) := by decide +kernel
theorem dX12_letter_127 : decode cX12_letter 127 = .ok (.isub, 1) := by decide +kernel
theorem dX12_letter_128 : decode cX12_letter 128 = .ok (.iconst 1, 1) := by decide +kernel
theorem dX12_letter_129 : decode cX12_letter 129 = .ok (.iadd, 1) := by decide +kernel
theorem dX12_letter_130 : decode cX12_letter 130 = .ok (.ireturn, 1) := by decide +kernel
theorem dX12_values_0 : decode cX12_values 0 = .ok (.aload_n 0, 1) := by decide +kernel
theorem dX12_values_1 : decode cX12_values 1 = .ok (.getfield 146, 3) := by decide +kernel
theorem dX12_values_4 : decode cX12_values 4 = .ok (.ifCond .eq 22, 3) := by decide +kernel
theorem dX12_values_7 : decode cX12_values 7 = .ok (.iload_n 1, 1) := by decide +kernel
theorem dX12_values_8 : decode cX12_values 8 = .ok (.iconst (-1), 1) := by decide +kernel
theorem dX12_values_9 : decode cX12_values 9 = .ok (.aload_n 0, 1) := by decide +kernel
theorem dX12_values_10 : decode cX12_values 10 = .ok (.getfield 54, 3) := by decide +kernel
theorem dX12_values_13 : decode cX12_values 13 = .ok (.aload_n 0, 1) := by decide +kernel
theorem dX12_values_14 : decode cX12_values 14 = .ok (.getfield 51, 3) := by decide +kernel
theorem dX12_values_17 : decode cX12_values 17 = .ok (.iaload, 1) := by decide +kernel
theorem dX12_values_18 : decode cX12_values 18 = .ok (.iconst 1, 1) := by decide +kernel
theorem dX12_values_19 : decode cX12_values 19 = .ok (.isub, 1) := by decide +kernel
theorem dX12_values_20 : decode cX12_values 20 = .ok (.invokestatic 362, 3) := by decide +kernel
theorem dX12_values_23 : decode cX12_values 23 = .ok (.ifCond .ne 5, 3) := by decide +kernel
theorem dX12_values_26 : decode cX12_values 26 = .ok (.iconst (-1), 1) := by decide +kernel
theorem dX12_values_27 : decode cX12_values 27 = .ok (.ireturn, 1) := by decide +kernel
theorem dX12_values_28 : decode cX12_values 28 = .ok (.iload_n 1, 1) := by decide +kernel
theorem dX12_values_29 : decode cX12_values 29 = .ok (.iconst (-1), 1) := by decide +kernel
theorem dX12_values_30 : decode cX12_values 30 = .ok (.if_icmp .ne 8, 3) := by decide +kernel
theorem dX12_values_33 : decode cX12_values 33 = .ok (.bipush 20, 2) := by decide +kernel
theorem dX12_values_35 : decode cX12_values 35 = .ok (.goto 16, 3) := by decide +kernel
theorem dX12_values_38 : decode cX12_values 38 = .ok (.aload_n 0, 1) := by decide +kernel
theorem dX12_values_39 : decode cX12_values 39 = .ok (.getfield 57, 3) := by decide +kernel
theorem dX12_values_42 : decode cX12_values 42 = .ok (.iconst 4, 1) := by decide +kernel
theorem dX12_values_43 : decode cX12_values 43 = .ok (.aload_n 0, 1) := by decide +kernel
theorem dX12_values_44 : decode cX12_values 44 = .ok (.getfield 51, 3) := by decide +kernel
theorem dX12_values_47 : decode cX12_values 47 = .ok (.imul, 1) := by decide +kernel
theorem dX12_values_48 : decode cX12_values 48 = .ok (.iload_n 1, 1) := by decide +kernel
theorem dX12_values_49 : decode cX12_values 49 = .ok (.iadd, 1) := by decide +kernel
theorem dX12_values_50 : decode cX12_values 50 = .ok (.iaload, 1) := by decide +kernel
theorem dX12_values_51 : decode cX12_values 51 = .ok (.ireturn, 1) := by decide +kernel
theorem dX12_isPlace_0 : decode cX12_isPlace 0 = .ok (.aload_n 0, 1) := by decide +kernel
theorem dX12_isPlace_1 : decode cX12_isPlace 1 = .ok (.getfield 146, 3) := by decide +kernel
theorem dX12_isPlace_4 : decode cX12_isPlace 4 = .ok (.ifCond .eq 23, 3) := by decide +kernel
theorem dX12_isPlace_7 : decode cX12_isPlace 7 = .ok (.iload_n 1, 1) := by decide +kernel
theorem dX12_isPlace_8 : decode cX12_isPlace 8 = .ok (.iconst 0, 1) := by decide +kernel
theorem dX12_isPlace_9 : decode cX12_isPlace 9 = .ok (.aload_n 0, 1) := by decide +kernel
theorem dX12_isPlace_10 : decode cX12_isPlace 10 = .ok (.getfield 173, 3) := by decide +kernel
theorem dX12_isPlace_13 : decode cX12_isPlace 13 = .ok (.iconst 0, 1) := by decide +kernel
theorem dX12_isPlace_14 : decode cX12_isPlace 14 = .ok (.iaload, 1) := by decide +kernel
theorem dX12_isPlace_15 : decode cX12_isPlace 15 = .ok (.iconst 1, 1) := by decide +kernel
theorem dX12_isPlace_16 : decode cX12_isPlace 16 = .ok (.isub, 1) := by decide +kernel
theorem dX12_isPlace_17 : decode cX12_isPlace 17 = .ok (.invokestatic 362, 3) := by decide +kernel
theorem dX12_isPlace_20 : decode cX12_isPlace 20 = .ok (.ifCond .eq 7, 3) := by decide +kernel
theorem dX12_isPlace_23 : decode cX12_isPlace 23 = .ok (.iconst 1, 1) := by decide +kernel
theorem dX12_isPlace_24 : decode cX12_isPlace 24 = .ok (.goto 4, 3) := by decide +kernel
theorem dX12_isPlace_27 : decode cX12_isPlace 27 = .ok (.iconst 0, 1) := by decide +kernel
theorem dX12_isPlace_28 : decode cX12_isPlace 28 = .ok (.ireturn, 1) := by decide +kernel
theorem dX12_fittingRows_0 : decode cX12_fittingRows 0 = .ok (.iconst 0, 1) := by decide +kernel
theorem dX12_fittingRows_1 : decode cX12_fittingRows 1 = .ok (.istore_n 2, 1) := by decide +kernel
theorem dX12_fittingRows_2 : decode cX12_fittingRows 2 = .ok (.iconst 0, 1) := by decide +kernel
theorem dX12_fittingRows_3 : decode cX12_fittingRows 3 = .ok (.istore_n 3, 1) := by decide +kernel
theorem dX12_fittingRows_4 : decode cX12_fittingRows 4 = .ok (.iload_n 3, 1) := by decide +kernel
theorem dX12_fittingRows_5 : decode cX12_fittingRows 5 = .ok (.sipush 4096, 3) := by decide +kernel
theorem dX12_fittingRows_8 : decode cX12_fittingRows 8 = .ok (.if_icmp .ge 31, 3) := by decide +kernel
theorem dX12_fittingRows_11 : decode cX12_fittingRows 11 = .ok (.iload_n 2, 1) := by decide +kernel
theorem dX12_fittingRows_12 : decode cX12_fittingRows 12 = .ok (.iload_n 3, 1) := by decide +kernel
theorem dX12_fittingRows_13 : decode cX12_fittingRows 13 = .ok (.iload_n 1, 1) := by decide +kernel
theorem dX12_fittingRows_14 : decode cX12_fittingRows 14 = .ok (.ishr, 1) := by decide +kernel
theorem dX12_fittingRows_15 : decode cX12_fittingRows 15 = .ok (.iconst 1, 1) := by decide +kernel
theorem dX12_fittingRows_16 : decode cX12_fittingRows 16 = .ok (.iand, 1) := by decide +kernel
theorem dX12_fittingRows_17 : decode cX12_fittingRows 17 = .ok (.iconst 1, 1) := by decide +kernel
theorem dX12_fittingRows_18 : decode cX12_fittingRows 18 = .ok (.if_icmp .ne 12, 3) := by decide +kernel
theorem dX12_fittingRows_21 : decode cX12_fittingRows 21 = .ok (.aload_n 0, 1) := by decide +kernel
theorem dX12_fittingRows_22 : decode cX12_fittingRows 22 = .ok (.getfield 218, 3) := by decide +kernel
theorem dX12_fittingRows_25 : decode cX12_fittingRows 25 = .ok (.iload_n 3, 1) := by decide +kernel
theorem dX12_fittingRows_26 : decode cX12_fittingRows 26 = .ok (.iaload, 1) := by decide +kernel
theorem dX12_fittingRows_27 : decode cX12_fittingRows 27 = .ok (.goto 4, 3) := by decide +kernel
theorem dX12_fittingRows_30 : decode cX12_fittingRows 30 = .ok (.iconst 0, 1) := by decide +kernel
theorem dX12_fittingRows_31 : decode cX12_fittingRows 31 = .ok (.iadd, 1) := by decide +kernel
theorem dX12_fittingRows_32 : decode cX12_fittingRows 32 = .ok (.istore_n 2, 1) := by decide +kernel
theorem dX12_fittingRows_33 : decode cX12_fittingRows 33 = .ok (.iinc 3 1, 3) := by decide +kernel
theorem dX12_fittingRows_36 : decode cX12_fittingRows 36 = .ok (.goto (-32), 3) := by decide +kernel
theorem dX12_fittingRows_39 : decode cX12_fittingRows 39 = .ok (.iload_n 2, 1) := by decide +kernel
theorem dX12_fittingRows_40 : decode cX12_fittingRows 40 = .ok (.ireturn, 1) := by decide +kernel
theorem dX12_isUseful_0 : decode cX12_isUseful 0 = .ok (.aload_n 0, 1) := by decide +kernel
theorem dX12_isUseful_1 : decode cX12_isUseful 1 = .ok (.getfield 212, 3) := by decide +kernel
theorem dX12_isUseful_4 : decode cX12_isUseful 4 = .ok (.iconst 1, 1) := by decide +kernel
theorem dX12_isUseful_5 : decode cX12_isUseful 5 = .ok (.iload_n 1, 1) := by decide +kernel
theorem dX12_isUseful_6 : decode cX12_isUseful 6 = .ok (.ishl, 1) := by decide +kernel
theorem dX12_isUseful_7 : decode cX12_isUseful 7 = .ok (.iconst 1, 1) := by decide +kernel
theorem dX12_isUseful_8 : decode cX12_isUseful 8 = .ok (.isub, 1) := by decide +kernel
theorem dX12_isUseful_9 : decode cX12_isUseful 9 = .ok (.iand, 1) := by decide +kernel
theorem dX12_isUseful_10 : decode cX12_isUseful 10 = .ok (.istore_n 2, 1) := by decide +kernel
theorem dX12_isUseful_11 : decode cX12_isUseful 11 = .ok (.iconst 0, 1) := by decide +kernel
theorem dX12_isUseful_12 : decode cX12_isUseful 12 = .ok (.istore_n 3, 1) := by decide +kernel
theorem dX12_isUseful_13 : decode cX12_isUseful 13 = .ok (.iload_n 3, 1) := by decide +kernel
theorem dX12_isUseful_14 : decode cX12_isUseful 14 = .ok (.sipush 4096, 3) := by decide +kernel
theorem dX12_isUseful_17 : decode cX12_isUseful 17 = .ok (.if_icmp .ge 35, 3) := by decide +kernel
theorem dX12_isUseful_20 : decode cX12_isUseful 20 = .ok (.aload_n 0, 1) := by decide +kernel
theorem dX12_isUseful_21 : decode cX12_isUseful 21 = .ok (.getfield 218, 3) := by decide +kernel
theorem dX12_isUseful_24 : decode cX12_isUseful 24 = .ok (.iload_n 3, 1) := by decide +kernel
theorem dX12_isUseful_25 : decode cX12_isUseful 25 = .ok (.iaload, 1) := by decide +kernel
theorem dX12_isUseful_26 : decode cX12_isUseful 26 = .ok (.ifCond .le 20, 3) := by decide +kernel
theorem dX12_isUseful_29 : decode cX12_isUseful 29 = .ok (.iload_n 3, 1) := by decide +kernel
theorem dX12_isUseful_30 : decode cX12_isUseful 30 = .ok (.iload_n 1, 1) := by decide +kernel
theorem dX12_isUseful_31 : decode cX12_isUseful 31 = .ok (.ishr, 1) := by decide +kernel
theorem dX12_isUseful_32 : decode cX12_isUseful 32 = .ok (.iconst 1, 1) := by decide +kernel
theorem dX12_isUseful_33 : decode cX12_isUseful 33 = .ok (.iand, 1) := by decide +kernel
theorem dX12_isUseful_34 : decode cX12_isUseful 34 = .ok (.iconst 1, 1) := by decide +kernel
theorem dX12_isUseful_35 : decode cX12_isUseful 35 = .ok (.if_icmp .ne 11, 3) := by decide +kernel
theorem dX12_isUseful_38 : decode cX12_isUseful 38 = .ok (.iload_n 3, 1) := by decide +kernel
theorem dX12_isUseful_39 : decode cX12_isUseful 39 = .ok (.iload_n 2, 1) := by decide +kernel
theorem dX12_isUseful_40 : decode cX12_isUseful 40 = .ok (.iand, 1) := by decide +kernel
theorem dX12_isUseful_41 : decode cX12_isUseful 41 = .ok (.ifCond .ne 5, 3) := by decide +kernel
theorem dX12_isUseful_44 : decode cX12_isUseful 44 = .ok (.iconst 1, 1) := by decide +kernel
theorem dX12_isUseful_45 : decode cX12_isUseful 45 = .ok (.ireturn, 1) := by decide +kernel
theorem dX12_isUseful_46 : decode cX12_isUseful 46 = .ok (.iinc 3 1, 3) := by decide +kernel
theorem dX12_isUseful_49 : decode cX12_isUseful 49 = .ok (.goto (-36), 3) := by decide +kernel
theorem dX12_isUseful_52 : decode cX12_isUseful 52 = .ok (.iconst 0, 1) := by decide +kernel
theorem dX12_isUseful_53 : decode cX12_isUseful 53 = .ok (.ireturn, 1) := by decide +kernel
theorem dX12_takenRows_0 : decode cX12_takenRows 0 = .ok (.aload_n 0, 1) := by decide +kernel
theorem dX12_takenRows_1 : decode cX12_takenRows 1 = .ok (.aload_n 0, 1) := by decide +kernel
theorem dX12_takenRows_2 : decode cX12_takenRows 2 = .ok (.getfield 179, 3) := by decide +kernel
theorem dX12_takenRows_5 : decode cX12_takenRows 5 = .ok (.iconst 0, 1) := by decide +kernel
theorem dX12_takenRows_6 : decode cX12_takenRows 6 = .ok (.iaload, 1) := by decide +kernel
theorem dX12_takenRows_7 : decode cX12_takenRows 7 = .ok (.invokevirtual 492, 3) := by decide +kernel
theorem dX12_takenRows_10 : decode cX12_takenRows 10 = .ok (.istore_n 2, 1) := by decide +kernel
theorem dX12_takenRows_11 : decode cX12_takenRows 11 = .ok (.iconst 0, 1) := by decide +kernel
theorem dX12_takenRows_12 : decode cX12_takenRows 12 = .ok (.istore_n 3, 1) := by decide +kernel
theorem dX12_takenRows_13 : decode cX12_takenRows 13 = .ok (.iconst 0, 1) := by decide +kernel
theorem dX12_takenRows_14 : decode cX12_takenRows 14 = .ok (.istore 4, 2) := by decide +kernel
theorem dX12_takenRows_16 : decode cX12_takenRows 16 = .ok (.iload 4, 2) := by decide +kernel
theorem dX12_takenRows_18 : decode cX12_takenRows 18 = .ok (.sipush 4096, 3) := by decide +kernel
theorem dX12_takenRows_21 : decode cX12_takenRows 21 = .ok (.if_icmp .ge 44, 3) := by decide +kernel
theorem dX12_takenRows_24 : decode cX12_takenRows 24 = .ok (.iload_n 3, 1) := by decide +kernel
theorem dX12_takenRows_25 : decode cX12_takenRows 25 = .ok (.aload_n 0, 1) := by decide +kernel
theorem dX12_takenRows_26 : decode cX12_takenRows 26 = .ok (.getfield 218, 3) := by decide +kernel
theorem dX12_takenRows_29 : decode cX12_takenRows 29 = .ok (.iload 4, 2) := by decide +kernel
theorem dX12_takenRows_31 : decode cX12_takenRows 31 = .ok (.iaload, 1) := by decide +kernel
theorem dX12_takenRows_32 : decode cX12_takenRows 32 = .ok (.ifCond .le 24, 3) := by decide +kernel
theorem dX12_takenRows_35 : decode cX12_takenRows 35 = .ok (.iload 4, 2) := by decide +kernel
theorem dX12_takenRows_37 : decode cX12_takenRows 37 = .ok (.iload_n 2, 1) := by decide +kernel
theorem dX12_takenRows_38 : decode cX12_takenRows 38 = .ok (.iand, 1) := by decide +kernel
theorem dX12_takenRows_39 : decode cX12_takenRows 39 = .ok (.invokestatic 495, 3) := by decide +kernel
theorem dX12_takenRows_42 : decode cX12_takenRows 42 = .ok (.iload_n 1, 1) := by decide +kernel
theorem dX12_takenRows_43 : decode cX12_takenRows 43 = .ok (.if_icmp .ne 13, 3) := by decide +kernel
theorem dX12_takenRows_46 : decode cX12_takenRows 46 = .ok (.aload_n 0, 1) := by decide +kernel
theorem dX12_takenRows_47 : decode cX12_takenRows 47 = .ok (.getfield 218, 3) := by decide +kernel
theorem dX12_takenRows_50 : decode cX12_takenRows 50 = .ok (.iload 4, 2) := by decide +kernel
theorem dX12_takenRows_52 : decode cX12_takenRows 52 = .ok (.iaload, 1) := by decide +kernel
theorem dX12_takenRows_53 : decode cX12_takenRows 53 = .ok (.goto 4, 3) := by decide +kernel
theorem dX12_takenRows_56 : decode cX12_takenRows 56 = .ok (.iconst 0, 1) := by decide +kernel
theorem dX12_takenRows_57 : decode cX12_takenRows 57 = .ok (.iadd, 1) := by decide +kernel
theorem dX12_takenRows_58 : decode cX12_takenRows 58 = .ok (.istore_n 3, 1) := by decide +kernel
theorem dX12_takenRows_59 : decode cX12_takenRows 59 = .ok (.iinc 4 1, 3) := by decide +kernel
theorem dX12_takenRows_62 : decode cX12_takenRows 62 = .ok (.goto (-46), 3) := by decide +kernel
theorem dX12_takenRows_65 : decode cX12_takenRows 65 = .ok (.iload_n 3, 1) := by decide +kernel
theorem dX12_takenRows_66 : decode cX12_takenRows 66 = .ok (.ireturn, 1) := by decide +kernel
theorem dX12_arm_0 : decode cX12_arm 0 = .ok (.aload_n 0, 1) := by decide +kernel
theorem dX12_arm_1 : decode cX12_arm 1 = .ok (.iload_n 1, 1) := by decide +kernel
theorem dX12_arm_2 : decode cX12_arm 2 = .ok (.invokevirtual 498, 3) := by decide +kernel
theorem dX12_arm_5 : decode cX12_arm 5 = .ok (.ifCond .ne 5, 3) := by decide +kernel
theorem dX12_arm_8 : decode cX12_arm 8 = .ok (.iconst (-1), 1) := by decide +kernel
theorem dX12_arm_9 : decode cX12_arm 9 = .ok (.ireturn, 1) := by decide +kernel
theorem dX12_arm_10 : decode cX12_arm 10 = .ok (.aload_n 0, 1) := by decide +kernel
theorem dX12_arm_11 : decode cX12_arm 11 = .ok (.iconst 0, 1) := by decide +kernel
theorem dX12_arm_12 : decode cX12_arm 12 = .ok (.invokevirtual 501, 3) := by decide +kernel
theorem dX12_arm_15 : decode cX12_arm 15 = .ok (.iload_n 2, 1) := by decide +kernel
theorem dX12_arm_16 : decode cX12_arm 16 = .ok (.ifCond .ne 10, 3) := by decide +kernel
theorem dX12_arm_19 : decode cX12_arm 19 = .ok (.aload_n 0, 1) := by decide +kernel
theorem dX12_arm_20 : decode cX12_arm 20 = .ok (.getfield 176, 3) := by decide +kernel
theorem dX12_arm_23 : decode cX12_arm 23 = .ok (.iload_n 1, 1) := by decide +kernel
theorem dX12_arm_24 : decode cX12_arm 24 = .ok (.iaload, 1) := by decide +kernel
theorem dX12_arm_25 : decode cX12_arm 25 = .ok (.ireturn, 1) := by decide +kernel
theorem dX12_arm_26 : decode cX12_arm 26 = .ok (.iload_n 2, 1) := by decide +kernel
theorem dX12_arm_27 : decode cX12_arm 27 = .ok (.iconst 1, 1) := by decide +kernel
theorem dX12_arm_28 : decode cX12_arm 28 = .ok (.if_icmp .ne 10, 3) := by decide +kernel
theorem dX12_arm_31 : decode cX12_arm 31 = .ok (.aload_n 0, 1) := by decide +kernel
theorem dX12_arm_32 : decode cX12_arm 32 = .ok (.getfield 209, 3) := by decide +kernel
theorem dX12_arm_35 : decode cX12_arm 35 = .ok (.iload_n 1, 1) := by decide +kernel
theorem dX12_arm_36 : decode cX12_arm 36 = .ok (.iaload, 1) := by decide +kernel
theorem dX12_arm_37 : decode cX12_arm 37 = .ok (.ireturn, 1) := by decide +kernel
theorem dX12_arm_38 : decode cX12_arm 38 = .ok (.iload_n 2, 1) := by decide +kernel
theorem dX12_arm_39 : decode cX12_arm 39 = .ok (.iconst 2, 1) := by decide +kernel
theorem dX12_arm_40 : decode cX12_arm 40 = .ok (.iconst 4, 1) := by decide +kernel
theorem dX12_arm_41 : decode cX12_arm 41 = .ok (.invokestatic 362, 3) := by decide +kernel
theorem dX12_arm_44 : decode cX12_arm 44 = .ok (.ifCond .ne 5, 3) := by decide +kernel
theorem dX12_arm_47 : decode cX12_arm 47 = .ok (.iconst (-1), 1) := by decide +kernel
theorem dX12_arm_48 : decode cX12_arm 48 = .ok (.ireturn, 1) := by decide +kernel
theorem dX12_arm_49 : decode cX12_arm 49 = .ok (.aload_n 0, 1) := by decide +kernel
theorem dX12_arm_50 : decode cX12_arm 50 = .ok (.invokevirtual 504, 3) := by decide +kernel
theorem dX12_arm_53 : decode cX12_arm 53 = .ok (.iload_n 2, 1) := by decide +kernel
theorem dX12_arm_54 : decode cX12_arm 54 = .ok (.iconst 2, 1) := by decide +kernel
theorem dX12_arm_55 : decode cX12_arm 55 = .ok (.if_icmp .ne 11, 3) := by decide +kernel
theorem dX12_arm_58 : decode cX12_arm 58 = .ok (.aload_n 0, 1) := by decide +kernel
theorem dX12_arm_59 : decode cX12_arm 59 = .ok (.iload_n 1, 1) := by decide +kernel
theorem dX12_arm_60 : decode cX12_arm 60 = .ok (.invokevirtual 507, 3) := by decide +kernel
theorem dX12_arm_63 : decode cX12_arm 63 = .ok (.goto 21, 3) := by decide +kernel
theorem dX12_arm_66 : decode cX12_arm 66 = .ok (.iload_n 2, 1) := by decide +kernel
theorem dX12_arm_67 : decode cX12_arm 67 = .ok (.iconst 3, 1) := by decide +kernel
theorem dX12_arm_68 : decode cX12_arm 68 = .ok (.if_icmp .ne 11, 3) := by decide +kernel
theorem dX12_arm_71 : decode cX12_arm 71 = .ok (.aload_n 0, 1) := by decide +kernel
theorem dX12_arm_72 : decode cX12_arm 72 = .ok (.iload_n 1, 1) := by decide +kernel
theorem dX12_arm_73 : decode cX12_arm 73 = .ok (.invokevirtual 510, 3) := by decide +kernel
theorem dX12_arm_76 : decode cX12_arm 76 = .ok (.goto 8, 3) := by decide +kernel
theorem dX12_arm_79 : decode cX12_arm 79 = .ok (.aload_n 0, 1) := by decide +kernel
theorem dX12_arm_80 : decode cX12_arm 80 = .ok (.iload_n 1, 1) := by decide +kernel
theorem dX12_arm_81 : decode cX12_arm 81 = .ok (.invokevirtual 513, 3) := by decide +kernel
theorem dX12_arm_84 : decode cX12_arm 84 = .ok (.ireturn, 1) := by decide +kernel
theorem dX12_fits_0 : decode cX12_fits 0 = .ok (.aload_n 0, 1) := by decide +kernel
theorem dX12_fits_1 : decode cX12_fits 1 = .ok (.iload_n 1, 1) := by decide +kernel
theorem dX12_fits_2 : decode cX12_fits 2 = .ok (.invokevirtual 498, 3) := by decide +kernel
theorem dX12_fits_5 : decode cX12_fits 5 = .ok (.ifCond .eq 32, 3) := by decide +kernel
theorem dX12_fits_8 : decode cX12_fits 8 = .ok (.iload_n 2, 1) := by decide +kernel
theorem dX12_fits_9 : decode cX12_fits 9 = .ok (.iconst 0, 1) := by decide +kernel
theorem dX12_fits_10 : decode cX12_fits 10 = .ok (.aload_n 0, 1) := by decide +kernel
theorem dX12_fits_11 : decode cX12_fits 11 = .ok (.invokevirtual 459, 3) := by decide +kernel
theorem dX12_fits_14 : decode cX12_fits 14 = .ok (.iconst 1, 1) := by decide +kernel
theorem dX12_fits_15 : decode cX12_fits 15 = .ok (.isub, 1) := by decide +kernel
