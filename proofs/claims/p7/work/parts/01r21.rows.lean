section
theorem dX12_setIn_16 : decode cX12_setIn 16 = .ok (.iload_n 1, 1) := by decide +kernel
theorem dX12_setIn_17 : decode cX12_setIn 17 = .ok (.imul, 1) := by decide +kernel
theorem dX12_setIn_18 : decode cX12_setIn 18 = .ok (.iload_n 2, 1) := by decide +kernel
theorem dX12_setIn_19 : decode cX12_setIn 19 = .ok (.iadd, 1) := by decide +kernel
theorem dX12_setIn_20 : decode cX12_setIn 20 = .ok (.iaload, 1) := by decide +kernel
theorem dX12_setIn_21 : decode cX12_setIn 21 = .ok (.iadd, 1) := by decide +kernel
theorem dX12_setIn_22 : decode cX12_setIn 22 = .ok (.iaload, 1) := by decide +kernel
theorem dX12_setIn_23 : decode cX12_setIn 23 = .ok (.ireturn, 1) := by decide +kernel
theorem dX12_fitting_0 : decode cX12_fitting 0 = .ok (.aload_n 0, 1) := by decide +kernel
theorem dX12_fitting_1 : decode cX12_fitting 1 = .ok (.iload_n 1, 1) := by decide +kernel
theorem dX12_fitting_2 : decode cX12_fitting 2 = .ok (.invokevirtual 478, 3) := by decide +kernel
theorem dX12_fitting_5 : decode cX12_fitting 5 = .ok (.iconst 1, 1) := by decide +kernel
theorem dX12_fitting_6 : decode cX12_fitting 6 = .ok (.aload_n 0, 1) := by decide +kernel
theorem dX12_fitting_7 : decode cX12_fitting 7 = .ok (.getfield 200, 3) := by decide +kernel
theorem dX12_fitting_10 : decode cX12_fitting 10 = .ok (.ishl, 1) := by decide +kernel
theorem dX12_fitting_11 : decode cX12_fitting 11 = .ok (.iconst 1, 1) := by decide +kernel
theorem dX12_fitting_12 : decode cX12_fitting 12 = .ok (.isub, 1) := by decide +kernel
theorem dX12_fitting_13 : decode cX12_fitting 13 = .ok (.istore_n 2, 1) := by decide +kernel
theorem dX12_fitting_14 : decode cX12_fitting 14 = .ok (.iconst 0, 1) := by decide +kernel
theorem dX12_fitting_15 : decode cX12_fitting 15 = .ok (.istore_n 3, 1) := by decide +kernel
theorem dX12_fitting_16 : decode cX12_fitting 16 = .ok (.iload_n 3, 1) := by decide +kernel
theorem dX12_fitting_17 : decode cX12_fitting 17 = .ok (.aload_n 0, 1) := by decide +kernel
theorem dX12_fitting_18 : decode cX12_fitting 18 = .ok (.invokevirtual 459, 3) := by decide +kernel
theorem dX12_fitting_21 : decode cX12_fitting 21 = .ok (.if_icmp .ge 23, 3) := by decide +kernel
theorem dX12_fitting_24 : decode cX12_fitting 24 = .ok (.iload_n 2, 1) := by decide +kernel
theorem dX12_fitting_25 : decode cX12_fitting 25 = .ok (.aload_n 0, 1) := by decide +kernel
theorem dX12_fitting_26 : decode cX12_fitting 26 = .ok (.iload_n 3, 1) := by decide +kernel
theorem dX12_fitting_27 : decode cX12_fitting 27 = .ok (.aload_n 0, 1) := by decide +kernel
theorem dX12_fitting_28 : decode cX12_fitting 28 = .ok (.getfield 215, 3) := by decide +kernel
theorem dX12_fitting_31 : decode cX12_fitting 31 = .ok (.iload_n 3, 1) := by decide +kernel
theorem dX12_fitting_32 : decode cX12_fitting 32 = .ok (.iaload, 1) := by decide +kernel
theorem dX12_fitting_33 : decode cX12_fitting 33 = .ok (.invokevirtual 481, 3) := by decide +kernel
theorem dX12_fitting_36 : decode cX12_fitting 36 = .ok (.iand, 1) := by decide +kernel
theorem dX12_fitting_37 : decode cX12_fitting 37 = .ok (.istore_n 2, 1) := by decide +kernel
theorem dX12_fitting_38 : decode cX12_fitting 38 = .ok (.iinc 3 1, 3) := by decide +kernel
theorem dX12_fitting_41 : decode cX12_fitting 41 = .ok (.goto (-25), 3) := by decide +kernel
theorem dX12_fitting_44 : decode cX12_fitting 44 = .ok (.iload_n 2, 1) := by decide +kernel
theorem dX12_fitting_45 : decode cX12_fitting 45 = .ok (.ireturn, 1) := by decide +kernel
theorem dX12_countsRows_0 : decode cX12_countsRows 0 = .ok (.iconst 0, 1) := by decide +kernel
theorem dX12_countsRows_1 : decode cX12_countsRows 1 = .ok (.istore_n 1, 1) := by decide +kernel
theorem dX12_countsRows_2 : decode cX12_countsRows 2 = .ok (.iload_n 1, 1) := by decide +kernel
theorem dX12_countsRows_3 : decode cX12_countsRows 3 = .ok (.sipush 4096, 3) := by decide +kernel
theorem dX12_countsRows_6 : decode cX12_countsRows 6 = .ok (.if_icmp .ge 16, 3) := by decide +kernel
theorem dX12_countsRows_9 : decode cX12_countsRows 9 = .ok (.aload_n 0, 1) := by decide +kernel
theorem dX12_countsRows_10 : decode cX12_countsRows 10 = .ok (.getfield 218, 3) := by decide +kernel
theorem dX12_countsRows_13 : decode cX12_countsRows 13 = .ok (.iload_n 1, 1) := by decide +kernel
theorem dX12_countsRows_14 : decode cX12_countsRows 14 = .ok (.iconst 0, 1) := by decide +kernel
theorem dX12_countsRows_15 : decode cX12_countsRows 15 = .ok (.iastore, 1) := by decide +kernel
theorem dX12_countsRows_16 : decode cX12_countsRows 16 = .ok (.iinc 1 1, 3) := by decide +kernel
theorem dX12_countsRows_19 : decode cX12_countsRows 19 = .ok (.goto (-17), 3) := by decide +kernel
theorem dX12_countsRows_22 : decode cX12_countsRows 22 = .ok (.iconst 0, 1) := by decide +kernel
theorem dX12_countsRows_23 : decode cX12_countsRows 23 = .ok (.istore_n 1, 1) := by decide +kernel
theorem dX12_countsRows_24 : decode cX12_countsRows 24 = .ok (.iload_n 1, 1) := by decide +kernel
theorem dX12_countsRows_25 : decode cX12_countsRows 25 = .ok (.aload_n 0, 1) := by decide +kernel
theorem dX12_countsRows_26 : decode cX12_countsRows 26 = .ok (.getfield 170, 3) := by decide +kernel
theorem dX12_countsRows_29 : decode cX12_countsRows 29 = .ok (.if_icmp .ge 23, 3) := by decide +kernel
theorem dX12_countsRows_32 : decode cX12_countsRows 32 = .ok (.aload_n 0, 1) := by decide +kernel
theorem dX12_countsRows_33 : decode cX12_countsRows 33 = .ok (.getfield 218, 3) := by decide +kernel
theorem dX12_countsRows_36 : decode cX12_countsRows 36 = .ok (.aload_n 0, 1) := by decide +kernel
theorem dX12_countsRows_37 : decode cX12_countsRows 37 = .ok (.iload_n 1, 1) := by decide +kernel
theorem dX12_countsRows_38 : decode cX12_countsRows 38 = .ok (.invokevirtual 484, 3) := by decide +kernel
theorem dX12_countsRows_41 : decode cX12_countsRows 41 = .ok (.dup2, 1) := by decide +kernel
theorem dX12_countsRows_42 : decode cX12_countsRows 42 = .ok (.iaload, 1) := by decide +kernel
theorem dX12_countsRows_43 : decode cX12_countsRows 43 = .ok (.iconst 1, 1) := by decide +kernel
theorem dX12_countsRows_44 : decode cX12_countsRows 44 = .ok (.iadd, 1) := by decide +kernel
theorem dX12_countsRows_45 : decode cX12_countsRows 45 = .ok (.iastore, 1) := by decide +kernel
theorem dX12_countsRows_46 : decode cX12_countsRows 46 = .ok (.iinc 1 1, 3) := by decide +kernel
theorem dX12_countsRows_49 : decode cX12_countsRows 49 = .ok (.goto (-25), 3) := by decide +kernel
theorem dX12_countsRows_52 : decode cX12_countsRows 52 = .ok (.return_, 1) := by decide +kernel
theorem dX12_has_0 : decode cX12_has 0 = .ok (.iload_n 1, 1) := by decide +kernel
theorem dX12_has_1 : decode cX12_has 1 = .ok (.tableswitch 144 0 10 #[59, 69, 79, 84, 100, 107, 114, 121, 128, 133, 138], 59) := by decide +kernel
theorem dX12_has_60 : decode cX12_has 60 = .ok (.aload_n 0, 1) := by decide +kernel
theorem dX12_has_61 : decode cX12_has 61 = .ok (.getfield 54, 3) := by decide +kernel
theorem dX12_has_64 : decode cX12_has 64 = .ok (.aload_n 0, 1) := by decide +kernel
theorem dX12_has_65 : decode cX12_has 65 = .ok (.getfield 51, 3) := by decide +kernel
theorem dX12_has_68 : decode cX12_has 68 = .ok (.iaload, 1) := by decide +kernel
theorem dX12_has_69 : decode cX12_has 69 = .ok (.ireturn, 1) := by decide +kernel
theorem dX12_has_70 : decode cX12_has 70 = .ok (.aload_n 0, 1) := by decide +kernel
theorem dX12_has_71 : decode cX12_has 71 = .ok (.getfield 63, 3) := by decide +kernel
theorem dX12_has_74 : decode cX12_has 74 = .ok (.aload_n 0, 1) := by decide +kernel
theorem dX12_has_75 : decode cX12_has 75 = .ok (.getfield 51, 3) := by decide +kernel
theorem dX12_has_78 : decode cX12_has 78 = .ok (.iaload, 1) := by decide +kernel
theorem dX12_has_79 : decode cX12_has 79 = .ok (.ireturn, 1) := by decide +kernel
theorem dX12_has_80 : decode cX12_has 80 = .ok (.aload_n 0, 1) := by decide +kernel
theorem dX12_has_81 : decode cX12_has 81 = .ok (.invokevirtual 459, 3) := by decide +kernel
theorem dX12_has_84 : decode cX12_has 84 = .ok (.ireturn, 1) := by decide +kernel
theorem dX12_has_85 : decode cX12_has 85 = .ok (.aload_n 0, 1) := by decide +kernel
theorem dX12_has_86 : decode cX12_has 86 = .ok (.getfield 146, 3) := by decide +kernel
theorem dX12_has_89 : decode cX12_has 89 = .ok (.ifCond .eq 10, 3) := by decide +kernel
theorem dX12_has_92 : decode cX12_has 92 = .ok (.aload_n 0, 1) := by decide +kernel
theorem dX12_has_93 : decode cX12_has 93 = .ok (.getfield 170, 3) := by decide +kernel
theorem dX12_has_96 : decode cX12_has 96 = .ok (.goto 4, 3) := by decide +kernel
theorem dX12_has_99 : decode cX12_has 99 = .ok (.iconst 0, 1) := by decide +kernel
theorem dX12_has_100 : decode cX12_has 100 = .ok (.ireturn, 1) := by decide +kernel
theorem dX12_has_101 : decode cX12_has 101 = .ok (.aload_n 0, 1) := by decide +kernel
theorem dX12_has_102 : decode cX12_has 102 = .ok (.getfield 173, 3) := by decide +kernel
theorem dX12_has_105 : decode cX12_has 105 = .ok (.iconst 0, 1) := by decide +kernel
theorem dX12_has_106 : decode cX12_has 106 = .ok (.iaload, 1) := by decide +kernel
theorem dX12_has_107 : decode cX12_has 107 = .ok (.ireturn, 1) := by decide +kernel
theorem dX12_has_108 : decode cX12_has 108 = .ok (.aload_n 0, 1) := by decide +kernel
theorem dX12_has_109 : decode cX12_has 109 = .ok (.getfield 179, 3) := by decide +kernel
theorem dX12_has_112 : decode cX12_has 112 = .ok (.iconst 0, 1) := by decide +kernel
theorem dX12_has_113 : decode cX12_has 113 = .ok (.iaload, 1) := by decide +kernel
theorem dX12_has_114 : decode cX12_has 114 = .ok (.ireturn, 1) := by decide +kernel
theorem dX12_has_115 : decode cX12_has 115 = .ok (.aload_n 0, 1) := by decide +kernel
theorem dX12_has_116 : decode cX12_has 116 = .ok (.getfield 182, 3) := by decide +kernel
theorem dX12_has_119 : decode cX12_has 119 = .ok (.iconst 0, 1) := by decide +kernel
theorem dX12_has_120 : decode cX12_has 120 = .ok (.iaload, 1) := by decide +kernel
theorem dX12_has_121 : decode cX12_has 121 = .ok (.ireturn, 1) := by decide +kernel
theorem dX12_has_122 : decode cX12_has 122 = .ok (.aload_n 0, 1) := by decide +kernel
theorem dX12_has_123 : decode cX12_has 123 = .ok (.getfield 185, 3) := by decide +kernel
theorem dX12_has_126 : decode cX12_has 126 = .ok (.iconst 0, 1) := by decide +kernel
theorem dX12_has_127 : decode cX12_has 127 = .ok (.iaload, 1) := by decide +kernel
theorem dX12_has_128 : decode cX12_has 128 = .ok (.ireturn, 1) := by decide +kernel
theorem dX12_has_129 : decode cX12_has 129 = .ok (.aload_n 0, 1) := by decide +kernel
theorem dX12_has_130 : decode cX12_has 130 = .ok (.getfield 291, 3) := by decide +kernel
theorem dX12_has_133 : decode cX12_has 133 = .ok (.ireturn, 1) := by decide +kernel
theorem dX12_has_134 : decode cX12_has 134 = .ok (.aload_n 0, 1) := by decide +kernel
theorem dX12_has_135 : decode cX12_has 135 = .ok (.getfield 194, 3) := by decide +kernel
theorem dX12_has_138 : decode cX12_has 138 = .ok (.ireturn, 1) := by decide +kernel
theorem dX12_has_139 : decode cX12_has 139 = .ok (.aload_n 0, 1) := by decide +kernel
theorem dX12_has_140 : decode cX12_has 140 = .ok (.getfield 197, 3) := by decide +kernel
theorem dX12_has_143 : decode cX12_has 143 = .ok (.l2i, 1) := by decide +kernel
theorem dX12_has_144 : decode cX12_has 144 = .ok (.ireturn, 1) := by decide +kernel
theorem dX12_has_145 : decode cX12_has 145 = .ok (.iconst (-1), 1) := by decide +kernel
theorem dX12_has_146 : decode cX12_has 146 = .ok (.ireturn, 1) := by decide +kernel
theorem dX12_lettersOf_0 : decode cX12_lettersOf 0 = .ok (.iconst 0, 1) := by decide +kernel
theorem dX12_lettersOf_1 : decode cX12_lettersOf 1 = .ok (.istore_n 2, 1) := by decide +kernel
theorem dX12_lettersOf_2 : decode cX12_lettersOf 2 = .ok (.lload_n 0, 1) := by decide +kernel
theorem dX12_lettersOf_3 : decode cX12_lettersOf 3 = .ok (.lstore_n 3, 1) := by decide +kernel
theorem dX12_lettersOf_4 : decode cX12_lettersOf 4 = .ok (.lload_n 3, 1) := by decide +kernel
theorem dX12_lettersOf_5 : decode cX12_lettersOf 5 = .ok (.lconst 0, 1) := by decide +kernel
theorem dX12_lettersOf_6 : decode cX12_lettersOf 6 = .ok (.lcmp, 1) := by decide +kernel
theorem dX12_lettersOf_7 : decode cX12_lettersOf 7 = .ok (.ifCond .le 14, 3) := by decide +kernel
theorem dX12_lettersOf_10 : decode cX12_lettersOf 10 = .ok (.iinc 2 1, 3) := by decide +kernel
theorem dX12_lettersOf_13 : decode cX12_lettersOf 13 = .ok (.lload_n 3, 1) := by decide +kernel
theorem dX12_lettersOf_14 : decode cX12_lettersOf 14 = .ok (.bipush 8, 2) := by decide +kernel
theorem dX12_lettersOf_16 : decode cX12_lettersOf 16 = .ok (.lshr, 1) := by decide +kernel
theorem dX12_lettersOf_17 : decode cX12_lettersOf 17 = .ok (.lstore_n 3, 1) := by decide +kernel
theorem dX12_lettersOf_18 : decode cX12_lettersOf 18 = .ok (.goto (-14), 3) := by decide +kernel
theorem dX12_lettersOf_21 : decode cX12_lettersOf 21 = .ok (.iload_n 2, 1) := by decide +kernel
theorem dX12_lettersOf_22 : decode cX12_lettersOf 22 = .ok (.ireturn, 1) := by decide +kernel
theorem dX12_letter_0 : decode cX12_letter 0 = .ok (.iload_n 3, 1) := by decide +kernel
theorem dX12_letter_1 : decode cX12_letter 1 = .ok (.iconst 0, 1) := by decide +kernel
theorem dX12_letter_2 : decode cX12_letter 2 = .ok (.iconst 5, 1) := by decide +kernel
theorem dX12_letter_3 : decode cX12_letter 3 = .ok (.invokestatic 362, 3) := by decide +kernel
theorem dX12_letter_6 : decode cX12_letter 6 = .ok (.ifCond .eq 47, 3) := by decide +kernel
theorem dX12_letter_9 : decode cX12_letter 9 = .ok (.iload_n 1, 1) := by decide +kernel
theorem dX12_letter_10 : decode cX12_letter 10 = .ok (.iconst 0, 1) := by decide +kernel
theorem dX12_letter_11 : decode cX12_letter 11 = .ok (.iconst 1, 1) := by decide +kernel
theorem dX12_letter_12 : decode cX12_letter 12 = .ok (.invokestatic 362, 3) := by decide +kernel
theorem dX12_letter_15 : decode cX12_letter 15 = .ok (.ifCond .eq 38, 3) := by decide +kernel
theorem dX12_letter_18 : decode cX12_letter 18 = .ok (.iload_n 2, 1) := by decide +kernel
theorem dX12_letter_19 : decode cX12_letter 19 = .ok (.iconst 0, 1) := by decide +kernel
theorem dX12_letter_20 : decode cX12_letter 20 = .ok (.iload_n 1, 1) := by decide +kernel
theorem dX12_letter_21 : decode cX12_letter 21 = .ok (.ifCond .ne 15, 3) := by decide +kernel
theorem dX12_letter_24 : decode cX12_letter 24 = .ok (.aload_n 0, 1) := by decide +kernel
theorem dX12_letter_25 : decode cX12_letter 25 = .ok (.getfield 54, 3) := by decide +kernel
theorem dX12_letter_28 : decode cX12_letter 28 = .ok (.aload_n 0, 1) := by decide +kernel
theorem dX12_letter_29 : decode cX12_letter 29 = .ok (.getfield 51, 3) := by decide +kernel
theorem dX12_letter_32 : decode cX12_letter 32 = .ok (.iaload, 1) := by decide +kernel
theorem dX12_letter_33 : decode cX12_letter 33 = .ok (.goto 12, 3) := by decide +kernel
theorem dX12_letter_36 : decode cX12_letter 36 = .ok (.aload_n 0, 1) := by decide +kernel
theorem dX12_letter_37 : decode cX12_letter 37 = .ok (.getfield 63, 3) := by decide +kernel
theorem dX12_letter_40 : decode cX12_letter 40 = .ok (.aload_n 0, 1) := by decide +kernel
theorem dX12_letter_41 : decode cX12_letter 41 = .ok (.getfield 51, 3) := by decide +kernel
theorem dX12_letter_44 : decode cX12_letter 44 = .ok (.iaload, 1) := by decide +kernel
theorem dX12_letter_45 : decode cX12_letter 45 = .ok (.iconst 1, 1) := by decide +kernel
theorem dX12_letter_46 : decode cX12_letter 46 = .ok (.isub, 1) := by decide +kernel
theorem dX12_letter_47 : decode cX12_letter 47 = .ok (.invokestatic 362, 3) := by decide +kernel
theorem dX12_letter_50 : decode cX12_letter 50 = .ok (.ifCond .ne 5, 3) := by decide +kernel
theorem dX12_letter_53 : decode cX12_letter 53 = .ok (.iconst (-1), 1) := by decide +kernel
theorem dX12_letter_54 : decode cX12_letter 54 = .ok (.ireturn, 1) := by decide +kernel
theorem dX12_letter_55 : decode cX12_letter 55 = .ok (.iload_n 1, 1) := by decide +kernel
theorem dX12_letter_56 : decode cX12_letter 56 = .ok (.ifCond .ne 19, 3) := by decide +kernel
theorem dX12_letter_59 : decode cX12_letter 59 = .ok (.aload_n 0, 1) := by decide +kernel
theorem dX12_letter_60 : decode cX12_letter 60 = .ok (.getfield 114, 3) := by decide +kernel
theorem dX12_letter_63 : decode cX12_letter 63 = .ok (.iconst 4, 1) := by decide +kernel
theorem dX12_letter_64 : decode cX12_letter 64 = .ok (.aload_n 0, 1) := by decide +kernel
theorem dX12_letter_65 : decode cX12_letter 65 = .ok (.getfield 51, 3) := by decide +kernel
theorem dX12_letter_68 : decode cX12_letter 68 = .ok (.imul, 1) := by decide +kernel
theorem dX12_letter_69 : decode cX12_letter 69 = .ok (.iload_n 2, 1) := by decide +kernel
theorem dX12_letter_70 : decode cX12_letter 70 = .ok (.iadd, 1) := by decide +kernel
theorem dX12_letter_71 : decode cX12_letter 71 = .ok (.laload, 1) := by decide +kernel
theorem dX12_letter_72 : decode cX12_letter 72 = .ok (.goto 17, 3) := by decide +kernel
theorem dX12_letter_75 : decode cX12_letter 75 = .ok (.aload_n 0, 1) := by decide +kernel
theorem dX12_letter_76 : decode cX12_letter 76 = .ok (.getfield 118, 3) := by decide +kernel
theorem dX12_letter_79 : decode cX12_letter 79 = .ok (.bipush 24, 2) := by decide +kernel
theorem dX12_letter_81 : decode cX12_letter 81 = .ok (.aload_n 0, 1) := by decide +kernel
theorem dX12_letter_82 : decode cX12_letter 82 = .ok (.getfield 51, 3) := by decide +kernel
theorem dX12_letter_85 : decode cX12_letter 85 = .ok (.imul, 1) := by decide +kernel
theorem dX12_letter_86 : decode cX12_letter 86 = .ok (.iload_n 2, 1) := by decide +kernel
theorem dX12_letter_87 : decode cX12_letter 87 = .ok (.iadd, 1) := by decide +kernel
theorem dX12_letter_88 : decode cX12_letter 88 = .ok (.laload, 1) := by decide +kernel
theorem dX12_letter_89 : decode cX12_letter 89 = .ok (.lstore 4, 2) := by decide +kernel
theorem dX12_letter_91 : decode cX12_letter 91 = .ok (.lload 4, 2) := by decide +kernel
theorem dX12_letter_93 : decode cX12_letter 93 = .ok (.invokestatic 487, 3) := by decide +kernel
theorem dX12_letter_96 : decode cX12_letter 96 = .ok (.istore 6, 2) := by decide +kernel
theorem dX12_letter_98 : decode cX12_letter 98 = .ok (.iload_n 3, 1) := by decide +kernel
theorem dX12_letter_99 : decode cX12_letter 99 = .ok (.iload 6, 2) := by decide +kernel
theorem dX12_letter_101 : decode cX12_letter 101 = .ok (.if_icmp .lt 7, 3) := by decide +kernel
theorem dX12_letter_104 : decode cX12_letter 104 = .ok (.iconst 0, 1) := by decide +kernel
theorem dX12_letter_105 : decode cX12_letter 105 = .ok (.goto 25, 3) := by decide +kernel
theorem dX12_letter_108 : decode cX12_letter 108 = .ok (.lload 4, 2) := by decide +kernel
theorem dX12_letter_110 : decode cX12_letter 110 = .ok (.bipush 8, 2) := by decide +kernel
theorem dX12_letter_112 : decode cX12_letter 112 = .ok (.iload 6, 2) := by decide +kernel
theorem dX12_letter_114 : decode cX12_letter 114 = .ok (.iconst 1, 1) := by decide +kernel
theorem dX12_letter_115 : decode cX12_letter 115 = .ok (.isub, 1) := by decide +kernel
theorem dX12_letter_116 : decode cX12_letter 116 = .ok (.iload_n 3, 1) := by decide +kernel
theorem dX12_letter_117 : decode cX12_letter 117 = .ok (.isub, 1) := by decide +kernel
theorem dX12_letter_118 : decode cX12_letter 118 = .ok (.imul, 1) := by decide +kernel
theorem dX12_letter_119 : decode cX12_letter 119 = .ok (.lshr, 1) := by decide +kernel
theorem dX12_letter_120 : decode cX12_letter 120 = .ok (.ldc2_w 490, 3) := by decide +kernel
theorem dX12_letter_123 : decode cX12_letter 123 = .ok (.land, 1) := by decide +kernel
theorem dX12_letter_124 : decode cX12_letter 124 = .ok (.l2i, 1) := by decide +kernel
theorem dX12_letter_125 : decode cX12_letter 125 = .ok (.bipush 97, 2) := by decide +kernel
theorem dX12_letter_127 : decode cX12_letter 127 = .ok (.isub, 1) := by decide +kernel
theorem dX12_letter_128 : decode cX12_letter 128 = .ok (.iconst 1, 1) := by decide +kernel
theorem dX12_letter_129 : decode cX12_letter 129 = .ok (.iadd, 1) := by decide +kernel
theorem dX12_letter_130 : decode cX12_letter 130 = .ok (.ireturn, 1) := by decide +kernel
theorem dX12_values_0 : decode cX12_values 0 = .ok (.aload_n 0, 1) := by decide +kernel
theorem dX12_values_1 : decode cX12_values 1 = .ok (.getfield 146, 3) := by decide +kernel
theorem dX12_values_4 : decode cX12_values 4 = .ok (.ifCond .eq 22, 3) := by decide +kernel
theorem dX12_values_7 : decode cX12_values 7 = .ok (.iload_n 1, 1) := by decide +kernel
theorem dX12_values_8 : decode cX12_values 8 = .ok (.iconst (-1), 1) := by decide +kernel
theorem dX12_values_9 : decode cX12_values 9 = .ok (.aload_n 0, 1) := by decide +kernel
theorem dX12_values_10 : decode cX12_values 10 = .ok (.getfield 54, 3) := by decide +kernel
theorem dX12_values_13 : decode cX12_values 13 = .ok (.aload_n 0, 1) := by decide +kernel
theorem dX12_values_14 : decode cX12_values 14 = .ok (.getfield 51, 3) := by decide +kernel
theorem dX12_values_17 : decode cX12_values 17 = .ok (.iaload, 1) := by decide +kernel
theorem dX12_values_18 : decode cX12_values 18 = .ok (.iconst 1, 1) := by decide +kernel
theorem dX12_values_19 : decode cX12_values 19 = .ok (.isub, 1) := by decide +kernel
theorem dX12_values_20 : decode cX12_values 20 = .ok (.invokestatic 362, 3) := by decide +kernel
theorem dX12_values_23 : decode cX12_values 23 = .ok (.ifCond .ne 5, 3) := by decide +kernel
theorem dX12_values_26 : decode cX12_values 26 = .ok (.iconst (-1), 1) := by decide +kernel
theorem dX12_values_27 : decode cX12_values 27 = .ok (.ireturn, 1) := by decide +kernel
theorem dX12_values_28 : decode cX12_values 28 = .ok (.iload_n 1, 1) := by decide +kernel
theorem dX12_values_29 : decode cX12_values 29 = .ok (.iconst (-1), 1) := by decide +kernel
theorem dX12_values_30 : decode cX12_values 30 = .ok (.if_icmp .ne 8, 3) := by decide +kernel
theorem dX12_values_33 : decode cX12_values 33 = .ok (.bipush 20, 2) := by decide +kernel
theorem dX12_values_35 : decode cX12_values 35 = .ok (.goto 16, 3) := by decide +kernel
theorem dX12_values_38 : decode cX12_values 38 = .ok (.aload_n 0, 1) := by decide +kernel
theorem dX12_values_39 : decode cX12_values 39 = .ok (.getfield 57, 3) := by decide +kernel
theorem dX12_values_42 : decode cX12_values 42 = .ok (.iconst 4, 1) := by decide +kernel
theorem dX12_values_43 : decode cX12_values 43 = .ok (.aload_n 0, 1) := by decide +kernel
theorem dX12_values_44 : decode cX12_values 44 = .ok (.getfield 51, 3) := by decide +kernel
theorem dX12_values_47 : decode cX12_values 47 = .ok (.imul, 1) := by decide +kernel
theorem dX12_values_48 : decode cX12_values 48 = .ok (.iload_n 1, 1) := by decide +kernel
theorem dX12_values_49 : decode cX12_values 49 = .ok (.iadd, 1) := by decide +kernel
theorem dX12_values_50 : decode cX12_values 50 = .ok (.iaload, 1) := by decide +kernel
theorem dX12_values_51 : decode cX12_values 51 = .ok (.ireturn, 1) := by decide +kernel
theorem dX12_isPlace_0 : decode cX12_isPlace 0 = .ok (.aload_n 0, 1) := by decide +kernel
theorem dX12_isPlace_1 : decode cX12_isPlace 1 = .ok (.getfield 146, 3) := by decide +kernel
theorem dX12_isPlace_4 : decode cX12_isPlace 4 = .ok (.ifCond .eq 23, 3) := by decide +kernel
theorem dX12_isPlace_7 : decode cX12_isPlace 7 = .ok (.iload_n 1, 1) := by decide +kernel
theorem dX12_isPlace_8 : decode cX12_isPlace 8 = .ok (.iconst 0, 1) := by decide +kernel
theorem dX12_isPlace_9 : decode cX12_isPlace 9 = .ok (.aload_n 0, 1) := by decide +kernel
theorem dX12_isPlace_10 : decode cX12_isPlace 10 = .ok (.getfield 173, 3) := by decide +kernel
theorem dX12_isPlace_13 : decode cX12_isPlace 13 = .ok (.iconst 0, 1) := by decide +kernel
theorem dX12_isPlace_14 : decode cX12_isPlace 14 = .ok (.iaload, 1) := by decide +kernel
theorem dX12_isPlace_15 : decode cX12_isPlace 15 = .ok (.iconst 1, 1) := by decide +kernel
theorem dX12_isPlace_16 : decode cX12_isPlace 16 = .ok (.isub, 1) := by decide +kernel
theorem dX12_isPlace_17 : decode cX12_isPlace 17 = .ok (.invokestatic 362, 3) := by decide +kernel
theorem dX12_isPlace_20 : decode cX12_isPlace 20 = .ok (.ifCond .eq 7, 3) := by decide +kernel
theorem dX12_isPlace_23 : decode cX12_isPlace 23 = .ok (.iconst 1, 1) := by decide +kernel
theorem dX12_isPlace_24 : decode cX12_isPlace 24 = .ok (.goto 4, 3) := by decide +kernel
theorem dX12_isPlace_27 : decode cX12_isPlace 27 = .ok (.iconst 0, 1) := by decide +kernel
theorem dX12_isPlace_28 : decode cX12_isPlace 28 = .ok (.ireturn, 1) := by decide +kernel
theorem dX12_fittingRows_0 : decode cX12_fittingRows 0 = .ok (.iconst 0, 1) := by decide +kernel
theorem dX12_fittingRows_1 : decode cX12_fittingRows 1 = .ok (.istore_n 2, 1) := by decide +kernel
theorem dX12_fittingRows_2 : decode cX12_fittingRows 2 = .ok (.iconst 0, 1) := by decide +kernel
theorem dX12_fittingRows_3 : decode cX12_fittingRows 3 = .ok (.istore_n 3, 1) := by decide +kernel
theorem dX12_fittingRows_4 : decode cX12_fittingRows 4 = .ok (.iload_n 3, 1) := by decide +kernel
theorem dX12_fittingRows_5 : decode cX12_fittingRows 5 = .ok (.sipush 4096, 3) := by decide +kernel
theorem dX12_fittingRows_8 : decode cX12_fittingRows 8 = .ok (.if_icmp .ge 31, 3) := by decide +kernel
theorem dX12_fittingRows_11 : decode cX12_fittingRows 11 = .ok (.iload_n 2, 1) := by decide +kernel
theorem dX12_fittingRows_12 : decode cX12_fittingRows 12 = .ok (.iload_n 3, 1) := by decide +kernel
theorem dX12_fittingRows_13 : decode cX12_fittingRows 13 = .ok (.iload_n 1, 1) := by decide +kernel
theorem dX12_fittingRows_14 : decode cX12_fittingRows 14 = .ok (.ishr, 1) := by decide +kernel
theorem dX12_fittingRows_15 : decode cX12_fittingRows 15 = .ok (.iconst 1, 1) := by decide +kernel
theorem dX12_fittingRows_16 : decode cX12_fittingRows 16 = .ok (.iand, 1) := by decide +kernel
theorem dX12_fittingRows_17 : decode cX12_fittingRows 17 = .ok (.iconst 1, 1) := by decide +kernel
theorem dX12_fittingRows_18 : decode cX12_fittingRows 18 = .ok (.if_icmp .ne 12, 3) := by decide +kernel
theorem dX12_fittingRows_21 : decode cX12_fittingRows 21 = .ok (.aload_n 0, 1) := by decide +kernel
theorem dX12_fittingRows_22 : decode cX12_fittingRows 22 = .ok (.getfield 218, 3) := by decide +kernel
theorem dX12_fittingRows_25 : decode cX12_fittingRows 25 = .ok (.iload_n 3, 1) := by decide +kernel
theorem dX12_fittingRows_26 : decode cX12_fittingRows 26 = .ok (.iaload, 1) := by decide +kernel
theorem dX12_fittingRows_27 : decode cX12_fittingRows 27 = .ok (.goto 4, 3) := by decide +kernel
theorem dX12_fittingRows_30 : decode cX12_fittingRows 30 = .ok (.iconst 0, 1) := by decide +kernel
theorem dX12_fittingRows_31 : decode cX12_fittingRows 31 = .ok (.iadd, 1) := by decide +kernel
theorem dX12_fittingRows_32 : decode cX12_fittingRows 32 = .ok (.istore_n 2, 1) := by decide +kernel
theorem dX12_fittingRows_33 : decode cX12_fittingRows 33 = .ok (.iinc 3 1, 3) := by decide +kernel
theorem dX12_fittingRows_36 : decode cX12_fittingRows 36 = .ok (.goto (-32), 3) := by decide +kernel
theorem dX12_fittingRows_39 : decode cX12_fittingRows 39 = .ok (.iload_n 2, 1) := by decide +kernel
theorem dX12_fittingRows_40 : decode cX12_fittingRows 40 = .ok (.ireturn, 1) := by decide +kernel
theorem dX12_isUseful_0 : decode cX12_isUseful 0 = .ok (.aload_n 0, 1) := by decide +kernel
theorem dX12_isUseful_1 : decode cX12_isUseful 1 = .ok (.getfield 212, 3) := by decide +kernel
theorem dX12_isUseful_4 : decode cX12_isUseful 4 = .ok (.iconst 1, 1) := by decide +kernel
theorem dX12_isUseful_5 : decode cX12_isUseful 5 = .ok (.iload_n 1, 1) := by decide +kernel
theorem dX12_isUseful_6 : decode cX12_isUseful 6 = .ok (.ishl, 1) := by decide +kernel
theorem dX12_isUseful_7 : decode cX12_isUseful 7 = .ok (.iconst 1, 1) := by decide +kernel
theorem dX12_isUseful_8 : decode cX12_isUseful 8 = .ok (.isub, 1) := by decide +kernel
theorem dX12_isUseful_9 : decode cX12_isUseful 9 = .ok (.iand, 1) := by decide +kernel
theorem dX12_isUseful_10 : decode cX12_isUseful 10 = .ok (.istore_n 2, 1) := by decide +kernel
theorem dX12_isUseful_11 : decode cX12_isUseful 11 = .ok (.iconst 0, 1) := by decide +kernel
theorem dX12_isUseful_12 : decode cX12_isUseful 12 = .ok (.istore_n 3, 1) := by decide +kernel
theorem dX12_isUseful_13 : decode cX12_isUseful 13 = .ok (.iload_n 3, 1) := by decide +kernel
theorem dX12_isUseful_14 : decode cX12_isUseful 14 = .ok (.sipush 4096, 3) := by decide +kernel
theorem dX12_isUseful_17 : decode cX12_isUseful 17 = .ok (.if_icmp .ge 35, 3) := by decide +kernel
theorem dX12_isUseful_20 : decode cX12_isUseful 20 = .ok (.aload_n 0, 1) := by decide +kernel
theorem dX12_isUseful_21 : decode cX12_isUseful 21 = .ok (.getfield 218, 3) := by decide +kernel
theorem dX12_isUseful_24 : decode cX12_isUseful 24 = .ok (.iload_n 3, 1) := by decide +kernel
theorem dX12_isUseful_25 : decode cX12_isUseful 25 = .ok (.iaload, 1) := by decide +kernel
theorem dX12_isUseful_26 : decode cX12_isUseful 26 = .ok (.ifCond .le 20, 3) := by decide +kernel
theorem dX12_isUseful_29 : decode cX12_isUseful 29 = .ok (.iload_n 3, 1) := by decide +kernel
theorem dX12_isUseful_30 : decode cX12_isUseful 30 = .ok (.iload_n 1, 1) := by decide +kernel
theorem dX12_isUseful_31 : decode cX12_isUseful 31 = .ok (.ishr, 1) := by decide +kernel
theorem dX12_isUseful_32 : decode cX12_isUseful 32 = .ok (.iconst 1, 1) := by decide +kernel
theorem dX12_isUseful_33 : decode cX12_isUseful 33 = .ok (.iand, 1) := by decide +kernel
theorem dX12_isUseful_34 : decode cX12_isUseful 34 = .ok (.iconst 1, 1) := by decide +kernel
theorem dX12_isUseful_35 : decode cX12_isUseful 35 = .ok (.if_icmp .ne 11, 3) := by decide +kernel
theorem dX12_isUseful_38 : decode cX12_isUseful 38 = .ok (.iload_n 3, 1) := by decide +kernel
theorem dX12_isUseful_39 : decode cX12_isUseful 39 = .ok (.iload_n 2, 1) := by decide +kernel
theorem dX12_isUseful_40 : decode cX12_isUseful 40 = .ok (.iand, 1) := by decide +kernel
theorem dX12_isUseful_41 : decode cX12_isUseful 41 = .ok (.ifCond .ne 5, 3) := by decide +kernel
theorem dX12_isUseful_44 : decode cX12_isUseful 44 = .ok (.iconst 1, 1) := by decide +kernel
theorem dX12_isUseful_45 : decode cX12_isUseful 45 = .ok (.ireturn, 1) := by decide +kernel
theorem dX12_isUseful_46 : decode cX12_isUseful 46 = .ok (.iinc 3 1, 3) := by decide +kernel
theorem dX12_isUseful_49 : decode cX12_isUseful 49 = .ok (.goto (-36), 3) := by decide +kernel
theorem dX12_isUseful_52 : decode cX12_isUseful 52 = .ok (.iconst 0, 1) := by decide +kernel
theorem dX12_isUseful_53 : decode cX12_isUseful 53 = .ok (.ireturn, 1) := by decide +kernel
theorem dX12_takenRows_0 : decode cX12_takenRows 0 = .ok (.aload_n 0, 1) := by decide +kernel
theorem dX12_takenRows_1 : decode cX12_takenRows 1 = .ok (.aload_n 0, 1) := by decide +kernel
theorem dX12_takenRows_2 : decode cX12_takenRows 2 = .ok (.getfield 179, 3) := by decide +kernel
theorem dX12_takenRows_5 : decode cX12_takenRows 5 = .ok (.iconst 0, 1) := by decide +kernel
theorem dX12_takenRows_6 : decode cX12_takenRows 6 = .ok (.iaload, 1) := by decide +kernel
theorem dX12_takenRows_7 : decode cX12_takenRows 7 = .ok (.invokevirtual 492, 3) := by decide +kernel
theorem dX12_takenRows_10 : decode cX12_takenRows 10 = .ok (.istore_n 2, 1) := by decide +kernel
theorem dX12_takenRows_11 : decode cX12_takenRows 11 = .ok (.iconst 0, 1) := by decide +kernel
theorem dX12_takenRows_12 : decode cX12_takenRows 12 = .ok (.istore_n 3, 1) := by decide +kernel
theorem dX12_takenRows_13 : decode cX12_takenRows 13 = .ok (.iconst 0, 1) := by decide +kernel
theorem dX12_takenRows_14 : decode cX12_takenRows 14 = .ok (.istore 4, 2) := by decide +kernel
theorem dX12_takenRows_16 : decode cX12_takenRows 16 = .ok (.iload 4, 2) := by decide +kernel
theorem dX12_takenRows_18 : decode cX12_takenRows 18 = .ok (.sipush 4096, 3) := by decide +kernel
theorem dX12_takenRows_21 : decode cX12_takenRows 21 = .ok (.if_icmp .ge 44, 3) := by decide +kernel
theorem dX12_takenRows_24 : decode cX12_takenRows 24 = .ok (.iload_n 3, 1) := by decide +kernel
theorem dX12_takenRows_25 : decode cX12_takenRows 25 = .ok (.aload_n 0, 1) := by decide +kernel
theorem dX12_takenRows_26 : decode cX12_takenRows 26 = .ok (.getfield 218, 3) := by decide +kernel
theorem dX12_takenRows_29 : decode cX12_takenRows 29 = .ok (.iload 4, 2) := by decide +kernel
theorem dX12_takenRows_31 : decode cX12_takenRows 31 = .ok (.iaload, 1) := by decide +kernel
theorem dX12_takenRows_32 : decode cX12_takenRows 32 = .ok (.ifCond .le 24, 3) := by decide +kernel
theorem dX12_takenRows_35 : decode cX12_takenRows 35 = .ok (.iload 4, 2) := by decide +kernel
theorem dX12_takenRows_37 : decode cX12_takenRows 37 = .ok (.iload_n 2, 1) := by decide +kernel
theorem dX12_takenRows_38 : decode cX12_takenRows 38 = .ok (.iand, 1) := by decide +kernel
theorem dX12_takenRows_39 : decode cX12_takenRows 39 = .ok (.invokestatic 495, 3) := by decide +kernel
theorem dX12_takenRows_42 : decode cX12_takenRows 42 = .ok (.iload_n 1, 1) := by decide +kernel
theorem dX12_takenRows_43 : decode cX12_takenRows 43 = .ok (.if_icmp .ne 13, 3) := by decide +kernel
theorem dX12_takenRows_46 : decode cX12_takenRows 46 = .ok (.aload_n 0, 1) := by decide +kernel
theorem dX12_takenRows_47 : decode cX12_takenRows 47 = .ok (.getfield 218, 3) := by decide +kernel
theorem dX12_takenRows_50 : decode cX12_takenRows 50 = .ok (.iload 4, 2) := by decide +kernel
theorem dX12_takenRows_52 : decode cX12_takenRows 52 = .ok (.iaload, 1) := by decide +kernel
theorem dX12_takenRows_53 : decode cX12_takenRows 53 = .ok (.goto 4, 3) := by decide +kernel
theorem dX12_takenRows_56 : decode cX12_takenRows 56 = .ok (.iconst 0, 1) := by decide +kernel
theorem dX12_takenRows_57 : decode cX12_takenRows 57 = .ok (.iadd, 1) := by decide +kernel
theorem dX12_takenRows_58 : decode cX12_takenRows 58 = .ok (.istore_n 3, 1) := by decide +kernel
theorem dX12_takenRows_59 : decode cX12_takenRows 59 = .ok (.iinc 4 1, 3) := by decide +kernel
theorem dX12_takenRows_62 : decode cX12_takenRows 62 = .ok (.goto (-46), 3) := by decide +kernel
theorem dX12_takenRows_65 : decode cX12_takenRows 65 = .ok (.iload_n 3, 1) := by decide +kernel
theorem dX12_takenRows_66 : decode cX12_takenRows 66 = .ok (.ireturn, 1) := by decide +kernel
theorem dX12_arm_0 : decode cX12_arm 0 = .ok (.aload_n 0, 1) := by decide +kernel
theorem dX12_arm_1 : decode cX12_arm 1 = .ok (.iload_n 1, 1) := by decide +kernel
theorem dX12_arm_2 : decode cX12_arm 2 = .ok (.invokevirtual 498, 3) := by decide +kernel
theorem dX12_arm_5 : decode cX12_arm 5 = .ok (.ifCond .ne 5, 3) := by decide +kernel
theorem dX12_arm_8 : decode cX12_arm 8 = .ok (.iconst (-1), 1) := by decide +kernel
theorem dX12_arm_9 : decode cX12_arm 9 = .ok (.ireturn, 1) := by decide +kernel
theorem dX12_arm_10 : decode cX12_arm 10 = .ok (.aload_n 0, 1) := by decide +kernel
theorem dX12_arm_11 : decode cX12_arm 11 = .ok (.iconst 0, 1) := by decide +kernel
theorem dX12_arm_12 : decode cX12_arm 12 = .ok (.invokevirtual 501, 3) := by decide +kernel
theorem dX12_arm_15 : decode cX12_arm 15 = .ok (.iload_n 2, 1) := by decide +kernel
theorem dX12_arm_16 : decode cX12_arm 16 = .ok (.ifCond .ne 10, 3) := by decide +kernel
theorem dX12_arm_19 : decode cX12_arm 19 = .ok (.aload_n 0, 1) := by decide +kernel
theorem dX12_arm_20 : decode cX12_arm 20 = .ok (.getfield 176, 3) := by decide +kernel
theorem dX12_arm_23 : decode cX12_arm 23 = .ok (.iload_n 1, 1) := by decide +kernel
theorem dX12_arm_24 : decode cX12_arm 24 = .ok (.iaload, 1) := by decide +kernel
theorem dX12_arm_25 : decode cX12_arm 25 = .ok (.ireturn, 1) := by decide +kernel
theorem dX12_arm_26 : decode cX12_arm 26 = .ok (.iload_n 2, 1) := by decide +kernel
theorem dX12_arm_27 : decode cX12_arm 27 = .ok (.iconst 1, 1) := by decide +kernel
theorem dX12_arm_28 : decode cX12_arm 28 = .ok (.if_icmp .ne 10, 3) := by decide +kernel
theorem dX12_arm_31 : decode cX12_arm 31 = .ok (.aload_n 0, 1) := by decide +kernel
theorem dX12_arm_32 : decode cX12_arm 32 = .ok (.getfield 209, 3) := by decide +kernel
theorem dX12_arm_35 : decode cX12_arm 35 = .ok (.iload_n 1, 1) := by decide +kernel
theorem dX12_arm_36 : decode cX12_arm 36 = .ok (.iaload, 1) := by decide +kernel
theorem dX12_arm_37 : decode cX12_arm 37 = .ok (.ireturn, 1) := by decide +kernel
theorem dX12_arm_38 : decode cX12_arm 38 = .ok (.iload_n 2, 1) := by decide +kernel
theorem dX12_arm_39 : decode cX12_arm 39 = .ok (.iconst 2, 1) := by decide +kernel
theorem dX12_arm_40 : decode cX12_arm 40 = .ok (.iconst 4, 1) := by decide +kernel
theorem dX12_arm_41 : decode cX12_arm 41 = .ok (.invokestatic 362, 3) := by decide +kernel
theorem dX12_arm_44 : decode cX12_arm 44 = .ok (.ifCond .ne 5, 3) := by decide +kernel
theorem dX12_arm_47 : decode cX12_arm 47 = .ok (.iconst (-1), 1) := by decide +kernel
theorem dX12_arm_48 : decode cX12_arm 48 = .ok (.ireturn, 1) := by decide +kernel
theorem dX12_arm_49 : decode cX12_arm 49 = .ok (.aload_n 0, 1) := by decide +kernel
theorem dX12_arm_50 : decode cX12_arm 50 = .ok (.invokevirtual 504, 3) := by decide +kernel
theorem dX12_arm_53 : decode cX12_arm 53 = .ok (.iload_n 2, 1) := by decide +kernel
theorem dX12_arm_54 : decode cX12_arm 54 = .ok (.iconst 2, 1) := by decide +kernel
theorem dX12_arm_55 : decode cX12_arm 55 = .ok (.if_icmp .ne 11, 3) := by decide +kernel
theorem dX12_arm_58 : decode cX12_arm 58 = .ok (.aload_n 0, 1) := by decide +kernel
theorem dX12_arm_59 : decode cX12_arm 59 = .ok (.iload_n 1, 1) := by decide +kernel
theorem dX12_arm_60 : decode cX12_arm 60 = .ok (.invokevirtual 507, 3) := by decide +kernel
theorem dX12_arm_63 : decode cX12_arm 63 = .ok (.goto 21, 3) := by decide +kernel
theorem dX12_arm_66 : decode cX12_arm 66 = .ok (.iload_n 2, 1) := by decide +kernel
theorem dX12_arm_67 : decode cX12_arm 67 = .ok (.iconst 3, 1) := by decide +kernel
theorem dX12_arm_68 : decode cX12_arm 68 = .ok (.if_icmp .ne 11, 3) := by decide +kernel
theorem dX12_arm_71 : decode cX12_arm 71 = .ok (.aload_n 0, 1) := by decide +kernel
theorem dX12_arm_72 : decode cX12_arm 72 = .ok (.iload_n 1, 1) := by decide +kernel
theorem dX12_arm_73 : decode cX12_arm 73 = .ok (.invokevirtual 510, 3) := by decide +kernel
theorem dX12_arm_76 : decode cX12_arm 76 = .ok (.goto 8, 3) := by decide +kernel
theorem dX12_arm_79 : decode cX12_arm 79 = .ok (.aload_n 0, 1) := by decide +kernel
theorem dX12_arm_80 : decode cX12_arm 80 = .ok (.iload_n 1, 1) := by decide +kernel
theorem dX12_arm_81 : decode cX12_arm 81 = .ok (.invokevirtual 513, 3) := by decide +kernel
theorem dX12_arm_84 : decode cX12_arm 84 = .ok (.ireturn, 1) := by decide +kernel
theorem dX12_fits_0 : decode cX12_fits 0 = .ok (.aload_n 0, 1) := by decide +kernel
theorem dX12_fits_1 : decode cX12_fits 1 = .ok (.iload_n 1, 1) := by decide +kernel
theorem dX12_fits_2 : decode cX12_fits 2 = .ok (.invokevirtual 498, 3) := by decide +kernel
theorem dX12_fits_5 : decode cX12_fits 5 = .ok (.ifCond .eq 32, 3) := by decide +kernel
theorem dX12_fits_8 : decode cX12_fits 8 = .ok (.iload_n 2, 1) := by decide +kernel
theorem dX12_fits_9 : decode cX12_fits 9 = .ok (.iconst 0, 1) := by decide +kernel
theorem dX12_fits_10 : decode cX12_fits 10 = .ok (.aload_n 0, 1) := by decide +kernel
theorem dX12_fits_11 : decode cX12_fits 11 = .ok (.invokevirtual 459, 3) := by decide +kernel
theorem dX12_fits_14 : decode cX12_fits 14 = .ok (.iconst 1, 1) := by decide +kernel
theorem dX12_fits_15 : decode cX12_fits 15 = .ok (.isub, 1) := by decide +kernel
end
section
theorem dX12_fits_16 : decode cX12_fits 16 = .ok (.invokestatic 362, 3) := by decide +kernel
theorem dX12_fits_19 : decode cX12_fits 19 = .ok (.ifCond .eq 18, 3) := by decide +kernel
theorem dX12_fits_22 : decode cX12_fits 22 = .ok (.iload_n 3, 1) := by decide +kernel
theorem dX12_fits_23 : decode cX12_fits 23 = .ok (.iconst 0, 1) := by decide +kernel
theorem dX12_fits_24 : decode cX12_fits 24 = .ok (.aload_n 0, 1) := by decide +kernel
theorem dX12_fits_25 : decode cX12_fits 25 = .ok (.iload_n 2, 1) := by decide +kernel
theorem dX12_fits_26 : decode cX12_fits 26 = .ok (.invokevirtual 463, 3) := by decide +kernel
theorem dX12_fits_29 : decode cX12_fits 29 = .ok (.iconst 1, 1) := by decide +kernel
theorem dX12_fits_30 : decode cX12_fits 30 = .ok (.isub, 1) := by decide +kernel
theorem dX12_fits_31 : decode cX12_fits 31 = .ok (.invokestatic 362, 3) := by decide +kernel
theorem dX12_fits_34 : decode cX12_fits 34 = .ok (.ifCond .ne 5, 3) := by decide +kernel
theorem dX12_fits_37 : decode cX12_fits 37 = .ok (.iconst (-1), 1) := by decide +kernel
theorem dX12_fits_38 : decode cX12_fits 38 = .ok (.ireturn, 1) := by decide +kernel
theorem dX12_fits_39 : decode cX12_fits 39 = .ok (.aload_n 0, 1) := by decide +kernel
theorem dX12_fits_40 : decode cX12_fits 40 = .ok (.iconst 0, 1) := by decide +kernel
theorem dX12_fits_41 : decode cX12_fits 41 = .ok (.invokevirtual 501, 3) := by decide +kernel
theorem dX12_fits_44 : decode cX12_fits 44 = .ok (.aload_n 0, 1) := by decide +kernel
theorem dX12_fits_45 : decode cX12_fits 45 = .ok (.iload_n 2, 1) := by decide +kernel
theorem dX12_fits_46 : decode cX12_fits 46 = .ok (.iload_n 3, 1) := by decide +kernel
theorem dX12_fits_47 : decode cX12_fits 47 = .ok (.invokevirtual 481, 3) := by decide +kernel
theorem dX12_fits_50 : decode cX12_fits 50 = .ok (.iload_n 1, 1) := by decide +kernel
theorem dX12_fits_51 : decode cX12_fits 51 = .ok (.ishr, 1) := by decide +kernel
theorem dX12_fits_52 : decode cX12_fits 52 = .ok (.iconst 1, 1) := by decide +kernel
theorem dX12_fits_53 : decode cX12_fits 53 = .ok (.iand, 1) := by decide +kernel
theorem dX12_fits_54 : decode cX12_fits 54 = .ok (.ireturn, 1) := by decide +kernel
theorem dX12_holds_0 : decode cX12_holds 0 = .ok (.aload_n 0, 1) := by decide +kernel
theorem dX12_holds_1 : decode cX12_holds 1 = .ok (.iload_n 1, 1) := by decide +kernel
theorem dX12_holds_2 : decode cX12_holds 2 = .ok (.invokevirtual 498, 3) := by decide +kernel
theorem dX12_holds_5 : decode cX12_holds 5 = .ok (.ifCond .eq 11, 3) := by decide +kernel
theorem dX12_holds_8 : decode cX12_holds 8 = .ok (.aload_n 0, 1) := by decide +kernel
theorem dX12_holds_9 : decode cX12_holds 9 = .ok (.iload_n 2, 1) := by decide +kernel
theorem dX12_holds_10 : decode cX12_holds 10 = .ok (.invokevirtual 498, 3) := by decide +kernel
theorem dX12_holds_13 : decode cX12_holds 13 = .ok (.ifCond .ne 5, 3) := by decide +kernel
theorem dX12_holds_16 : decode cX12_holds 16 = .ok (.iconst (-1), 1) := by decide +kernel
theorem dX12_holds_17 : decode cX12_holds 17 = .ok (.ireturn, 1) := by decide +kernel
theorem dX12_holds_18 : decode cX12_holds 18 = .ok (.aload_n 0, 1) := by decide +kernel
theorem dX12_holds_19 : decode cX12_holds 19 = .ok (.iconst 0, 1) := by decide +kernel
theorem dX12_holds_20 : decode cX12_holds 20 = .ok (.invokevirtual 501, 3) := by decide +kernel
theorem dX12_holds_23 : decode cX12_holds 23 = .ok (.aload_n 0, 1) := by decide +kernel
theorem dX12_holds_24 : decode cX12_holds 24 = .ok (.invokevirtual 504, 3) := by decide +kernel
theorem dX12_holds_27 : decode cX12_holds 27 = .ok (.iconst 0, 1) := by decide +kernel
theorem dX12_holds_28 : decode cX12_holds 28 = .ok (.istore_n 3, 1) := by decide +kernel
theorem dX12_holds_29 : decode cX12_holds 29 = .ok (.iload_n 3, 1) := by decide +kernel
theorem dX12_holds_30 : decode cX12_holds 30 = .ok (.sipush 4096, 3) := by decide +kernel
theorem dX12_holds_33 : decode cX12_holds 33 = .ok (.if_icmp .ge 37, 3) := by decide +kernel
theorem dX12_holds_36 : decode cX12_holds 36 = .ok (.aload_n 0, 1) := by decide +kernel
theorem dX12_holds_37 : decode cX12_holds 37 = .ok (.getfield 218, 3) := by decide +kernel
theorem dX12_holds_40 : decode cX12_holds 40 = .ok (.iload_n 3, 1) := by decide +kernel
theorem dX12_holds_41 : decode cX12_holds 41 = .ok (.iaload, 1) := by decide +kernel
theorem dX12_holds_42 : decode cX12_holds 42 = .ok (.ifCond .le 22, 3) := by decide +kernel
theorem dX12_holds_45 : decode cX12_holds 45 = .ok (.iload_n 3, 1) := by decide +kernel
theorem dX12_holds_46 : decode cX12_holds 46 = .ok (.iload_n 2, 1) := by decide +kernel
theorem dX12_holds_47 : decode cX12_holds 47 = .ok (.ishr, 1) := by decide +kernel
theorem dX12_holds_48 : decode cX12_holds 48 = .ok (.iconst 1, 1) := by decide +kernel
theorem dX12_holds_49 : decode cX12_holds 49 = .ok (.iand, 1) := by decide +kernel
theorem dX12_holds_50 : decode cX12_holds 50 = .ok (.iconst 1, 1) := by decide +kernel
theorem dX12_holds_51 : decode cX12_holds 51 = .ok (.if_icmp .ne 13, 3) := by decide +kernel
theorem dX12_holds_54 : decode cX12_holds 54 = .ok (.iload_n 3, 1) := by decide +kernel
theorem dX12_holds_55 : decode cX12_holds 55 = .ok (.iload_n 1, 1) := by decide +kernel
theorem dX12_holds_56 : decode cX12_holds 56 = .ok (.ishr, 1) := by decide +kernel
theorem dX12_holds_57 : decode cX12_holds 57 = .ok (.iconst 1, 1) := by decide +kernel
theorem dX12_holds_58 : decode cX12_holds 58 = .ok (.iand, 1) := by decide +kernel
theorem dX12_holds_59 : decode cX12_holds 59 = .ok (.ifCond .ne 5, 3) := by decide +kernel
theorem dX12_holds_62 : decode cX12_holds 62 = .ok (.iconst 0, 1) := by decide +kernel
theorem dX12_holds_63 : decode cX12_holds 63 = .ok (.ireturn, 1) := by decide +kernel
theorem dX12_holds_64 : decode cX12_holds 64 = .ok (.iinc 3 1, 3) := by decide +kernel
theorem dX12_holds_67 : decode cX12_holds 67 = .ok (.goto (-38), 3) := by decide +kernel
theorem dX12_holds_70 : decode cX12_holds 70 = .ok (.iconst 1, 1) := by decide +kernel
theorem dX12_holds_71 : decode cX12_holds 71 = .ok (.ireturn, 1) := by decide +kernel
theorem dX12_missing_0 : decode cX12_missing 0 = .ok (.aload_n 0, 1) := by decide +kernel
theorem dX12_missing_1 : decode cX12_missing 1 = .ok (.getfield 146, 3) := by decide +kernel
theorem dX12_missing_4 : decode cX12_missing 4 = .ok (.ifCond .eq 8, 3) := by decide +kernel
theorem dX12_missing_7 : decode cX12_missing 7 = .ok (.iload_n 1, 1) := by decide +kernel
theorem dX12_missing_8 : decode cX12_missing 8 = .ok (.iconst (-1), 1) := by decide +kernel
theorem dX12_missing_9 : decode cX12_missing 9 = .ok (.if_icmp .ge 5, 3) := by decide +kernel
theorem dX12_missing_12 : decode cX12_missing 12 = .ok (.iconst (-1), 1) := by decide +kernel
theorem dX12_missing_13 : decode cX12_missing 13 = .ok (.ireturn, 1) := by decide +kernel
theorem dX12_missing_14 : decode cX12_missing 14 = .ok (.aload_n 0, 1) := by decide +kernel
theorem dX12_missing_15 : decode cX12_missing 15 = .ok (.iconst 0, 1) := by decide +kernel
theorem dX12_missing_16 : decode cX12_missing 16 = .ok (.invokevirtual 501, 3) := by decide +kernel
theorem dX12_missing_19 : decode cX12_missing 19 = .ok (.iconst 0, 1) := by decide +kernel
theorem dX12_missing_20 : decode cX12_missing 20 = .ok (.istore_n 2, 1) := by decide +kernel
theorem dX12_missing_21 : decode cX12_missing 21 = .ok (.iconst 0, 1) := by decide +kernel
theorem dX12_missing_22 : decode cX12_missing 22 = .ok (.istore_n 3, 1) := by decide +kernel
theorem dX12_missing_23 : decode cX12_missing 23 = .ok (.iload_n 3, 1) := by decide +kernel
theorem dX12_missing_24 : decode cX12_missing 24 = .ok (.aload_n 0, 1) := by decide +kernel
theorem dX12_missing_25 : decode cX12_missing 25 = .ok (.getfield 170, 3) := by decide +kernel
theorem dX12_missing_28 : decode cX12_missing 28 = .ok (.if_icmp .ge 35, 3) := by decide +kernel
theorem dX12_missing_31 : decode cX12_missing 31 = .ok (.aload_n 0, 1) := by decide +kernel
theorem dX12_missing_32 : decode cX12_missing 32 = .ok (.iload_n 3, 1) := by decide +kernel
theorem dX12_missing_33 : decode cX12_missing 33 = .ok (.invokevirtual 484, 3) := by decide +kernel
theorem dX12_missing_36 : decode cX12_missing 36 = .ok (.aload_n 0, 1) := by decide +kernel
theorem dX12_missing_37 : decode cX12_missing 37 = .ok (.getfield 212, 3) := by decide +kernel
theorem dX12_missing_40 : decode cX12_missing 40 = .ok (.iand, 1) := by decide +kernel
theorem dX12_missing_41 : decode cX12_missing 41 = .ok (.ifCond .eq 6, 3) := by decide +kernel
theorem dX12_missing_44 : decode cX12_missing 44 = .ok (.goto 13, 3) := by decide +kernel
theorem dX12_missing_47 : decode cX12_missing 47 = .ok (.iload_n 2, 1) := by decide +kernel
theorem dX12_missing_48 : decode cX12_missing 48 = .ok (.iload_n 1, 1) := by decide +kernel
theorem dX12_missing_49 : decode cX12_missing 49 = .ok (.if_icmp .ne 5, 3) := by decide +kernel
theorem dX12_missing_52 : decode cX12_missing 52 = .ok (.iload_n 3, 1) := by decide +kernel
theorem dX12_missing_53 : decode cX12_missing 53 = .ok (.ireturn, 1) := by decide +kernel
theorem dX12_missing_54 : decode cX12_missing 54 = .ok (.iinc 2 1, 3) := by decide +kernel
theorem dX12_missing_57 : decode cX12_missing 57 = .ok (.iinc 3 1, 3) := by decide +kernel
theorem dX12_missing_60 : decode cX12_missing 60 = .ok (.goto (-37), 3) := by decide +kernel
theorem dX12_missing_63 : decode cX12_missing 63 = .ok (.iload_n 1, 1) := by decide +kernel
theorem dX12_missing_64 : decode cX12_missing 64 = .ok (.iconst (-1), 1) := by decide +kernel
theorem dX12_missing_65 : decode cX12_missing 65 = .ok (.if_icmp .ne 7, 3) := by decide +kernel
theorem dX12_missing_68 : decode cX12_missing 68 = .ok (.iload_n 2, 1) := by decide +kernel
theorem dX12_missing_69 : decode cX12_missing 69 = .ok (.goto 4, 3) := by decide +kernel
theorem dX12_missing_72 : decode cX12_missing 72 = .ok (.iconst (-1), 1) := by decide +kernel
theorem dX12_missing_73 : decode cX12_missing 73 = .ok (.ireturn, 1) := by decide +kernel
theorem dX12_isRow_0 : decode cX12_isRow 0 = .ok (.aload_n 0, 1) := by decide +kernel
theorem dX12_isRow_1 : decode cX12_isRow 1 = .ok (.getfield 146, 3) := by decide +kernel
theorem dX12_isRow_4 : decode cX12_isRow 4 = .ok (.ifCond .eq 21, 3) := by decide +kernel
theorem dX12_isRow_7 : decode cX12_isRow 7 = .ok (.iload_n 1, 1) := by decide +kernel
theorem dX12_isRow_8 : decode cX12_isRow 8 = .ok (.iconst 0, 1) := by decide +kernel
theorem dX12_isRow_9 : decode cX12_isRow 9 = .ok (.aload_n 0, 1) := by decide +kernel
theorem dX12_isRow_10 : decode cX12_isRow 10 = .ok (.getfield 170, 3) := by decide +kernel
theorem dX12_isRow_13 : decode cX12_isRow 13 = .ok (.iconst 1, 1) := by decide +kernel
theorem dX12_isRow_14 : decode cX12_isRow 14 = .ok (.isub, 1) := by decide +kernel
theorem dX12_isRow_15 : decode cX12_isRow 15 = .ok (.invokestatic 362, 3) := by decide +kernel
theorem dX12_isRow_18 : decode cX12_isRow 18 = .ok (.ifCond .eq 7, 3) := by decide +kernel
theorem dX12_isRow_21 : decode cX12_isRow 21 = .ok (.iconst 1, 1) := by decide +kernel
theorem dX12_isRow_22 : decode cX12_isRow 22 = .ok (.goto 4, 3) := by decide +kernel
theorem dX12_isRow_25 : decode cX12_isRow 25 = .ok (.iconst 0, 1) := by decide +kernel
theorem dX12_isRow_26 : decode cX12_isRow 26 = .ok (.ireturn, 1) := by decide +kernel
theorem dX12_taken_0 : decode cX12_taken 0 = .ok (.aload_n 0, 1) := by decide +kernel
theorem dX12_taken_1 : decode cX12_taken 1 = .ok (.iload_n 1, 1) := by decide +kernel
theorem dX12_taken_2 : decode cX12_taken 2 = .ok (.invokevirtual 516, 3) := by decide +kernel
theorem dX12_taken_5 : decode cX12_taken 5 = .ok (.ifCond .ne 5, 3) := by decide +kernel
theorem dX12_taken_8 : decode cX12_taken 8 = .ok (.iconst (-1), 1) := by decide +kernel
theorem dX12_taken_9 : decode cX12_taken 9 = .ok (.ireturn, 1) := by decide +kernel
theorem dX12_taken_10 : decode cX12_taken 10 = .ok (.aload_n 0, 1) := by decide +kernel
theorem dX12_taken_11 : decode cX12_taken 11 = .ok (.iconst 0, 1) := by decide +kernel
theorem dX12_taken_12 : decode cX12_taken 12 = .ok (.invokevirtual 501, 3) := by decide +kernel
theorem dX12_taken_15 : decode cX12_taken 15 = .ok (.aload_n 0, 1) := by decide +kernel
theorem dX12_taken_16 : decode cX12_taken 16 = .ok (.iload_n 1, 1) := by decide +kernel
theorem dX12_taken_17 : decode cX12_taken 17 = .ok (.invokevirtual 484, 3) := by decide +kernel
theorem dX12_taken_20 : decode cX12_taken 20 = .ok (.aload_n 0, 1) := by decide +kernel
theorem dX12_taken_21 : decode cX12_taken 21 = .ok (.aload_n 0, 1) := by decide +kernel
theorem dX12_taken_22 : decode cX12_taken 22 = .ok (.getfield 179, 3) := by decide +kernel
theorem dX12_taken_25 : decode cX12_taken 25 = .ok (.iconst 0, 1) := by decide +kernel
theorem dX12_taken_26 : decode cX12_taken 26 = .ok (.iaload, 1) := by decide +kernel
theorem dX12_taken_27 : decode cX12_taken 27 = .ok (.invokevirtual 492, 3) := by decide +kernel
theorem dX12_taken_30 : decode cX12_taken 30 = .ok (.iand, 1) := by decide +kernel
theorem dX12_taken_31 : decode cX12_taken 31 = .ok (.invokestatic 495, 3) := by decide +kernel
theorem dX12_taken_34 : decode cX12_taken 34 = .ok (.ireturn, 1) := by decide +kernel
theorem dX12_valueRead_0 : decode cX12_valueRead 0 = .ok (.aload_n 0, 1) := by decide +kernel
theorem dX12_valueRead_1 : decode cX12_valueRead 1 = .ok (.iconst 0, 1) := by decide +kernel
theorem dX12_valueRead_2 : decode cX12_valueRead 2 = .ok (.putfield 143, 3) := by decide +kernel
theorem dX12_valueRead_5 : decode cX12_valueRead 5 = .ok (.aload_n 0, 1) := by decide +kernel
theorem dX12_valueRead_6 : decode cX12_valueRead 6 = .ok (.iload_n 1, 1) := by decide +kernel
theorem dX12_valueRead_7 : decode cX12_valueRead 7 = .ok (.invokevirtual 404, 3) := by decide +kernel
theorem dX12_valueRead_10 : decode cX12_valueRead 10 = .ok (.iconst 0, 1) := by decide +kernel
theorem dX12_valueRead_11 : decode cX12_valueRead 11 = .ok (.istore_n 2, 1) := by decide +kernel
theorem dX12_valueRead_12 : decode cX12_valueRead 12 = .ok (.iconst 1, 1) := by decide +kernel
theorem dX12_valueRead_13 : decode cX12_valueRead 13 = .ok (.istore_n 3, 1) := by decide +kernel
theorem dX12_valueRead_14 : decode cX12_valueRead 14 = .ok (.iload_n 3, 1) := by decide +kernel
theorem dX12_valueRead_15 : decode cX12_valueRead 15 = .ok (.ifCond .eq 179, 3) := by decide +kernel
theorem dX12_valueRead_18 : decode cX12_valueRead 18 = .ok (.aload_n 0, 1) := by decide +kernel
theorem dX12_valueRead_19 : decode cX12_valueRead 19 = .ok (.getfield 36, 3) := by decide +kernel
theorem dX12_valueRead_22 : decode cX12_valueRead 22 = .ok (.ifCond .ne 172, 3) := by decide +kernel
theorem dX12_valueRead_25 : decode cX12_valueRead 25 = .ok (.aload_n 0, 1) := by decide +kernel
theorem dX12_valueRead_26 : decode cX12_valueRead 26 = .ok (.invokevirtual 331, 3) := by decide +kernel
theorem dX12_valueRead_29 : decode cX12_valueRead 29 = .ok (.aload_n 0, 1) := by decide +kernel
theorem dX12_valueRead_30 : decode cX12_valueRead 30 = .ok (.getfield 36, 3) := by decide +kernel
theorem dX12_valueRead_33 : decode cX12_valueRead 33 = .ok (.ifCond .le 5, 3) := by decide +kernel
theorem dX12_valueRead_36 : decode cX12_valueRead 36 = .ok (.iconst 0, 1) := by decide +kernel
theorem dX12_valueRead_37 : decode cX12_valueRead 37 = .ok (.ireturn, 1) := by decide +kernel
theorem dX12_valueRead_38 : decode cX12_valueRead 38 = .ok (.aload_n 0, 1) := by decide +kernel
theorem dX12_valueRead_39 : decode cX12_valueRead 39 = .ok (.getfield 131, 3) := by decide +kernel
theorem dX12_valueRead_42 : decode cX12_valueRead 42 = .ok (.aload_n 0, 1) := by decide +kernel
theorem dX12_valueRead_43 : decode cX12_valueRead 43 = .ok (.getfield 143, 3) := by decide +kernel
theorem dX12_valueRead_46 : decode cX12_valueRead 46 = .ok (.iaload, 1) := by decide +kernel
theorem dX12_valueRead_47 : decode cX12_valueRead 47 = .ok (.iconst 4, 1) := by decide +kernel
theorem dX12_valueRead_48 : decode cX12_valueRead 48 = .ok (.if_icmp .ne 20, 3) := by decide +kernel
theorem dX12_valueRead_51 : decode cX12_valueRead 51 = .ok (.aload_n 0, 1) := by decide +kernel
theorem dX12_valueRead_52 : decode cX12_valueRead 52 = .ok (.iconst 0, 1) := by decide +kernel
theorem dX12_valueRead_53 : decode cX12_valueRead 53 = .ok (.bipush 19, 2) := by decide +kernel
theorem dX12_valueRead_55 : decode cX12_valueRead 55 = .ok (.invokevirtual 407, 3) := by decide +kernel
theorem dX12_valueRead_58 : decode cX12_valueRead 58 = .ok (.istore_n 2, 1) := by decide +kernel
theorem dX12_valueRead_59 : decode cX12_valueRead 59 = .ok (.aload_n 0, 1) := by decide +kernel
theorem dX12_valueRead_60 : decode cX12_valueRead 60 = .ok (.iload_n 2, 1) := by decide +kernel
theorem dX12_valueRead_61 : decode cX12_valueRead 61 = .ok (.invokevirtual 519, 3) := by decide +kernel
theorem dX12_valueRead_64 : decode cX12_valueRead 64 = .ok (.istore_n 3, 1) := by decide +kernel
theorem dX12_valueRead_65 : decode cX12_valueRead 65 = .ok (.goto (-51), 3) := by decide +kernel
theorem dX12_valueRead_68 : decode cX12_valueRead 68 = .ok (.aload_n 0, 1) := by decide +kernel
theorem dX12_valueRead_69 : decode cX12_valueRead 69 = .ok (.aload_n 0, 1) := by decide +kernel
theorem dX12_valueRead_70 : decode cX12_valueRead 70 = .ok (.getfield 131, 3) := by decide +kernel
theorem dX12_valueRead_73 : decode cX12_valueRead 73 = .ok (.aload_n 0, 1) := by decide +kernel
theorem dX12_valueRead_74 : decode cX12_valueRead 74 = .ok (.getfield 143, 3) := by decide +kernel
theorem dX12_valueRead_77 : decode cX12_valueRead 77 = .ok (.iaload, 1) := by decide +kernel
theorem dX12_valueRead_78 : decode cX12_valueRead 78 = .ok (.invokevirtual 522, 3) := by decide +kernel
theorem dX12_valueRead_81 : decode cX12_valueRead 81 = .ok (.istore 4, 2) := by decide +kernel
theorem dX12_valueRead_83 : decode cX12_valueRead 83 = .ok (.aload_n 0, 1) := by decide +kernel
theorem dX12_valueRead_84 : decode cX12_valueRead 84 = .ok (.getfield 36, 3) := by decide +kernel
theorem dX12_valueRead_87 : decode cX12_valueRead 87 = .ok (.ifCond .le 5, 3) := by decide +kernel
theorem dX12_valueRead_90 : decode cX12_valueRead 90 = .ok (.iconst 0, 1) := by decide +kernel
theorem dX12_valueRead_91 : decode cX12_valueRead 91 = .ok (.ireturn, 1) := by decide +kernel
theorem dX12_valueRead_92 : decode cX12_valueRead 92 = .ok (.aload_n 0, 1) := by decide +kernel
theorem dX12_valueRead_93 : decode cX12_valueRead 93 = .ok (.getfield 69, 3) := by decide +kernel
theorem dX12_valueRead_96 : decode cX12_valueRead 96 = .ok (.bipush 24, 2) := by decide +kernel
theorem dX12_valueRead_98 : decode cX12_valueRead 98 = .ok (.aload_n 0, 1) := by decide +kernel
theorem dX12_valueRead_99 : decode cX12_valueRead 99 = .ok (.getfield 51, 3) := by decide +kernel
theorem dX12_valueRead_102 : decode cX12_valueRead 102 = .ok (.imul, 1) := by decide +kernel
theorem dX12_valueRead_103 : decode cX12_valueRead 103 = .ok (.iload 4, 2) := by decide +kernel
theorem dX12_valueRead_105 : decode cX12_valueRead 105 = .ok (.iadd, 1) := by decide +kernel
theorem dX12_valueRead_106 : decode cX12_valueRead 106 = .ok (.iaload, 1) := by decide +kernel
theorem dX12_valueRead_107 : decode cX12_valueRead 107 = .ok (.ifCond .ne 26, 3) := by decide +kernel
theorem dX12_valueRead_110 : decode cX12_valueRead 110 = .ok (.aload_n 0, 1) := by decide +kernel
theorem dX12_valueRead_111 : decode cX12_valueRead 111 = .ok (.aload_n 0, 1) := by decide +kernel
theorem dX12_valueRead_112 : decode cX12_valueRead 112 = .ok (.getfield 75, 3) := by decide +kernel
theorem dX12_valueRead_115 : decode cX12_valueRead 115 = .ok (.bipush 24, 2) := by decide +kernel
theorem dX12_valueRead_117 : decode cX12_valueRead 117 = .ok (.aload_n 0, 1) := by decide +kernel
theorem dX12_valueRead_118 : decode cX12_valueRead 118 = .ok (.getfield 51, 3) := by decide +kernel
theorem dX12_valueRead_121 : decode cX12_valueRead 121 = .ok (.imul, 1) := by decide +kernel
theorem dX12_valueRead_122 : decode cX12_valueRead 122 = .ok (.iload 4, 2) := by decide +kernel
theorem dX12_valueRead_124 : decode cX12_valueRead 124 = .ok (.iadd, 1) := by decide +kernel
theorem dX12_valueRead_125 : decode cX12_valueRead 125 = .ok (.iaload, 1) := by decide +kernel
theorem dX12_valueRead_126 : decode cX12_valueRead 126 = .ok (.invokevirtual 519, 3) := by decide +kernel
theorem dX12_valueRead_129 : decode cX12_valueRead 129 = .ok (.istore_n 3, 1) := by decide +kernel
theorem dX12_valueRead_130 : decode cX12_valueRead 130 = .ok (.goto (-116), 3) := by decide +kernel
theorem dX12_valueRead_133 : decode cX12_valueRead 133 = .ok (.aload_n 0, 1) := by decide +kernel
theorem dX12_valueRead_134 : decode cX12_valueRead 134 = .ok (.bipush 40, 2) := by decide +kernel
theorem dX12_valueRead_136 : decode cX12_valueRead 136 = .ok (.invokevirtual 413, 3) := by decide +kernel
theorem dX12_valueRead_139 : decode cX12_valueRead 139 = .ok (.aload_n 0, 1) := by decide +kernel
theorem dX12_valueRead_140 : decode cX12_valueRead 140 = .ok (.getfield 137, 3) := by decide +kernel
theorem dX12_valueRead_143 : decode cX12_valueRead 143 = .ok (.aload_n 0, 1) := by decide +kernel
theorem dX12_valueRead_144 : decode cX12_valueRead 144 = .ok (.getfield 143, 3) := by decide +kernel
theorem dX12_valueRead_147 : decode cX12_valueRead 147 = .ok (.iload 4, 2) := by decide +kernel
theorem dX12_valueRead_149 : decode cX12_valueRead 149 = .ok (.iastore, 1) := by decide +kernel
theorem dX12_valueRead_150 : decode cX12_valueRead 150 = .ok (.aload_n 0, 1) := by decide +kernel
theorem dX12_valueRead_151 : decode cX12_valueRead 151 = .ok (.getfield 140, 3) := by decide +kernel
theorem dX12_valueRead_154 : decode cX12_valueRead 154 = .ok (.aload_n 0, 1) := by decide +kernel
theorem dX12_valueRead_155 : decode cX12_valueRead 155 = .ok (.getfield 143, 3) := by decide +kernel
theorem dX12_valueRead_158 : decode cX12_valueRead 158 = .ok (.iconst 0, 1) := by decide +kernel
theorem dX12_valueRead_159 : decode cX12_valueRead 159 = .ok (.iastore, 1) := by decide +kernel
theorem dX12_valueRead_160 : decode cX12_valueRead 160 = .ok (.aload_n 0, 1) := by decide +kernel
theorem dX12_valueRead_161 : decode cX12_valueRead 161 = .ok (.getfield 134, 3) := by decide +kernel
theorem dX12_valueRead_164 : decode cX12_valueRead 164 = .ok (.aload_n 0, 1) := by decide +kernel
theorem dX12_valueRead_165 : decode cX12_valueRead 165 = .ok (.getfield 143, 3) := by decide +kernel
theorem dX12_valueRead_168 : decode cX12_valueRead 168 = .ok (.iconst 0, 1) := by decide +kernel
theorem dX12_valueRead_169 : decode cX12_valueRead 169 = .ok (.iastore, 1) := by decide +kernel
theorem dX12_valueRead_170 : decode cX12_valueRead 170 = .ok (.aload_n 0, 1) := by decide +kernel
theorem dX12_valueRead_171 : decode cX12_valueRead 171 = .ok (.aload_n 0, 1) := by decide +kernel
theorem dX12_valueRead_172 : decode cX12_valueRead 172 = .ok (.getfield 72, 3) := by decide +kernel
theorem dX12_valueRead_175 : decode cX12_valueRead 175 = .ok (.iconst 2, 1) := by decide +kernel
theorem dX12_valueRead_176 : decode cX12_valueRead 176 = .ok (.bipush 24, 2) := by decide +kernel
theorem dX12_valueRead_178 : decode cX12_valueRead 178 = .ok (.aload_n 0, 1) := by decide +kernel
theorem dX12_valueRead_179 : decode cX12_valueRead 179 = .ok (.getfield 51, 3) := by decide +kernel
theorem dX12_valueRead_182 : decode cX12_valueRead 182 = .ok (.imul, 1) := by decide +kernel
theorem dX12_valueRead_183 : decode cX12_valueRead 183 = .ok (.iload 4, 2) := by decide +kernel
theorem dX12_valueRead_185 : decode cX12_valueRead 185 = .ok (.iadd, 1) := by decide +kernel
theorem dX12_valueRead_186 : decode cX12_valueRead 186 = .ok (.imul, 1) := by decide +kernel
theorem dX12_valueRead_187 : decode cX12_valueRead 187 = .ok (.iaload, 1) := by decide +kernel
theorem dX12_valueRead_188 : decode cX12_valueRead 188 = .ok (.invokevirtual 404, 3) := by decide +kernel
theorem dX12_valueRead_191 : decode cX12_valueRead 191 = .ok (.goto (-177), 3) := by decide +kernel
theorem dX12_valueRead_194 : decode cX12_valueRead 194 = .ok (.aload_n 0, 1) := by decide +kernel
theorem dX12_valueRead_195 : decode cX12_valueRead 195 = .ok (.getfield 134, 3) := by decide +kernel
theorem dX12_valueRead_198 : decode cX12_valueRead 198 = .ok (.iconst 0, 1) := by decide +kernel
theorem dX12_valueRead_199 : decode cX12_valueRead 199 = .ok (.iaload, 1) := by decide +kernel
theorem dX12_valueRead_200 : decode cX12_valueRead 200 = .ok (.ireturn, 1) := by decide +kernel
theorem dX12_conRead_0 : decode cX12_conRead 0 = .ok (.aload_n 0, 1) := by decide +kernel
theorem dX12_conRead_1 : decode cX12_conRead 1 = .ok (.getfield 20, 3) := by decide +kernel
theorem dX12_conRead_4 : decode cX12_conRead 4 = .ok (.iconst 1, 1) := by decide +kernel
theorem dX12_conRead_5 : decode cX12_conRead 5 = .ok (.if_icmp .ne 14, 3) := by decide +kernel
theorem dX12_conRead_8 : decode cX12_conRead 8 = .ok (.aload_n 0, 1) := by decide +kernel
theorem dX12_conRead_9 : decode cX12_conRead 9 = .ok (.aload_n 0, 1) := by decide +kernel
theorem dX12_conRead_10 : decode cX12_conRead 10 = .ok (.getfield 32, 3) := by decide +kernel
theorem dX12_conRead_13 : decode cX12_conRead 13 = .ok (.invokevirtual 366, 3) := by decide +kernel
theorem dX12_conRead_16 : decode cX12_conRead 16 = .ok (.ifCond .eq 12, 3) := by decide +kernel
theorem dX12_conRead_19 : decode cX12_conRead 19 = .ok (.aload_n 0, 1) := by decide +kernel
theorem dX12_conRead_20 : decode cX12_conRead 20 = .ok (.iconst 1, 1) := by decide +kernel
theorem dX12_conRead_21 : decode cX12_conRead 21 = .ok (.aload_n 0, 1) := by decide +kernel
theorem dX12_conRead_22 : decode cX12_conRead 22 = .ok (.getfield 23, 3) := by decide +kernel
theorem dX12_conRead_25 : decode cX12_conRead 25 = .ok (.invokevirtual 320, 3) := by decide +kernel
theorem dX12_conRead_28 : decode cX12_conRead 28 = .ok (.aload_n 0, 1) := by decide +kernel
theorem dX12_conRead_29 : decode cX12_conRead 29 = .ok (.getfield 36, 3) := by decide +kernel
theorem dX12_conRead_32 : decode cX12_conRead 32 = .ok (.ifCond .le 7, 3) := by decide +kernel
theorem dX12_conRead_35 : decode cX12_conRead 35 = .ok (.iconst 0, 1) := by decide +kernel
theorem dX12_conRead_36 : decode cX12_conRead 36 = .ok (.goto 15, 3) := by decide +kernel
theorem dX12_conRead_39 : decode cX12_conRead 39 = .ok (.aload_n 0, 1) := by decide +kernel
theorem dX12_conRead_40 : decode cX12_conRead 40 = .ok (.aload_n 0, 1) := by decide +kernel
theorem dX12_conRead_41 : decode cX12_conRead 41 = .ok (.getfield 51, 3) := by decide +kernel
theorem dX12_conRead_44 : decode cX12_conRead 44 = .ok (.aload_n 0, 1) := by decide +kernel
theorem dX12_conRead_45 : decode cX12_conRead 45 = .ok (.getfield 32, 3) := by decide +kernel
theorem dX12_conRead_48 : decode cX12_conRead 48 = .ok (.invokevirtual 374, 3) := by decide +kernel
theorem dX12_conRead_51 : decode cX12_conRead 51 = .ok (.istore_n 2, 1) := by decide +kernel
theorem dX12_conRead_52 : decode cX12_conRead 52 = .ok (.aload_n 0, 1) := by decide +kernel
theorem dX12_conRead_53 : decode cX12_conRead 53 = .ok (.getfield 36, 3) := by decide +kernel
theorem dX12_conRead_56 : decode cX12_conRead 56 = .ok (.ifCond .ne 35, 3) := by decide +kernel
theorem dX12_conRead_59 : decode cX12_conRead 59 = .ok (.iload_n 2, 1) := by decide +kernel
theorem dX12_conRead_60 : decode cX12_conRead 60 = .ok (.iconst (-1), 1) := by decide +kernel
theorem dX12_conRead_61 : decode cX12_conRead 61 = .ok (.if_icmp .eq 21, 3) := by decide +kernel
theorem dX12_conRead_64 : decode cX12_conRead 64 = .ok (.aload_n 0, 1) := by decide +kernel
theorem dX12_conRead_65 : decode cX12_conRead 65 = .ok (.getfield 66, 3) := by decide +kernel
theorem dX12_conRead_68 : decode cX12_conRead 68 = .ok (.bipush 24, 2) := by decide +kernel
theorem dX12_conRead_70 : decode cX12_conRead 70 = .ok (.aload_n 0, 1) := by decide +kernel
theorem dX12_conRead_71 : decode cX12_conRead 71 = .ok (.getfield 51, 3) := by decide +kernel
theorem dX12_conRead_74 : decode cX12_conRead 74 = .ok (.imul, 1) := by decide +kernel
theorem dX12_conRead_75 : decode cX12_conRead 75 = .ok (.iload_n 2, 1) := by decide +kernel
theorem dX12_conRead_76 : decode cX12_conRead 76 = .ok (.iadd, 1) := by decide +kernel
theorem dX12_conRead_77 : decode cX12_conRead 77 = .ok (.iaload, 1) := by decide +kernel
theorem dX12_conRead_78 : decode cX12_conRead 78 = .ok (.iload_n 1, 1) := by decide +kernel
theorem dX12_conRead_79 : decode cX12_conRead 79 = .ok (.if_icmp .eq 12, 3) := by decide +kernel
theorem dX12_conRead_82 : decode cX12_conRead 82 = .ok (.aload_n 0, 1) := by decide +kernel
theorem dX12_conRead_83 : decode cX12_conRead 83 = .ok (.iconst 3, 1) := by decide +kernel
theorem dX12_conRead_84 : decode cX12_conRead 84 = .ok (.aload_n 0, 1) := by decide +kernel
theorem dX12_conRead_85 : decode cX12_conRead 85 = .ok (.getfield 23, 3) := by decide +kernel
theorem dX12_conRead_88 : decode cX12_conRead 88 = .ok (.invokevirtual 320, 3) := by decide +kernel
theorem dX12_conRead_91 : decode cX12_conRead 91 = .ok (.aload_n 0, 1) := by decide +kernel
theorem dX12_conRead_92 : decode cX12_conRead 92 = .ok (.getfield 36, 3) := by decide +kernel
theorem dX12_conRead_95 : decode cX12_conRead 95 = .ok (.ifCond .ne 7, 3) := by decide +kernel
theorem dX12_conRead_98 : decode cX12_conRead 98 = .ok (.aload_n 0, 1) := by decide +kernel
theorem dX12_conRead_99 : decode cX12_conRead 99 = .ok (.invokevirtual 337, 3) := by decide +kernel
theorem dX12_conRead_102 : decode cX12_conRead 102 = .ok (.aload_n 0, 1) := by decide +kernel
theorem dX12_conRead_103 : decode cX12_conRead 103 = .ok (.getfield 36, 3) := by decide +kernel
theorem dX12_conRead_106 : decode cX12_conRead 106 = .ok (.ifCond .le 7, 3) := by decide +kernel
theorem dX12_conRead_109 : decode cX12_conRead 109 = .ok (.iconst 0, 1) := by decide +kernel
theorem dX12_conRead_110 : decode cX12_conRead 110 = .ok (.goto 4, 3) := by decide +kernel
theorem dX12_conRead_113 : decode cX12_conRead 113 = .ok (.iload_n 2, 1) := by decide +kernel
theorem dX12_conRead_114 : decode cX12_conRead 114 = .ok (.ireturn, 1) := by decide +kernel
theorem dX12_isMoreOf_0 : decode cX12_isMoreOf 0 = .ok (.iload_n 1, 1) := by decide +kernel
theorem dX12_isMoreOf_1 : decode cX12_isMoreOf 1 = .ok (.istore_n 2, 1) := by decide +kernel
theorem dX12_isMoreOf_2 : decode cX12_isMoreOf 2 = .ok (.aload_n 0, 1) := by decide +kernel
theorem dX12_isMoreOf_3 : decode cX12_isMoreOf 3 = .ok (.getfield 36, 3) := by decide +kernel
theorem dX12_isMoreOf_6 : decode cX12_isMoreOf 6 = .ok (.ifCond .ne 175, 3) := by decide +kernel
theorem dX12_isMoreOf_9 : decode cX12_isMoreOf 9 = .ok (.aload_n 0, 1) := by decide +kernel
theorem dX12_isMoreOf_10 : decode cX12_isMoreOf 10 = .ok (.dup, 1) := by decide +kernel
theorem dX12_isMoreOf_11 : decode cX12_isMoreOf 11 = .ok (.getfield 143, 3) := by decide +kernel
theorem dX12_isMoreOf_14 : decode cX12_isMoreOf 14 = .ok (.iconst 1, 1) := by decide +kernel
theorem dX12_isMoreOf_15 : decode cX12_isMoreOf 15 = .ok (.isub, 1) := by decide +kernel
theorem dX12_isMoreOf_16 : decode cX12_isMoreOf 16 = .ok (.putfield 143, 3) := by decide +kernel
theorem dX12_isMoreOf_19 : decode cX12_isMoreOf 19 = .ok (.aload_n 0, 1) := by decide +kernel
theorem dX12_isMoreOf_20 : decode cX12_isMoreOf 20 = .ok (.getfield 143, 3) := by decide +kernel
theorem dX12_isMoreOf_23 : decode cX12_isMoreOf 23 = .ok (.ifCond .ne 12, 3) := by decide +kernel
theorem dX12_isMoreOf_26 : decode cX12_isMoreOf 26 = .ok (.aload_n 0, 1) := by decide +kernel
theorem dX12_isMoreOf_27 : decode cX12_isMoreOf 27 = .ok (.getfield 134, 3) := by decide +kernel
theorem dX12_isMoreOf_30 : decode cX12_isMoreOf 30 = .ok (.iconst 0, 1) := by decide +kernel
theorem dX12_isMoreOf_31 : decode cX12_isMoreOf 31 = .ok (.iload_n 2, 1) := by decide +kernel
theorem dX12_isMoreOf_32 : decode cX12_isMoreOf 32 = .ok (.iastore, 1) := by decide +kernel
theorem dX12_isMoreOf_33 : decode cX12_isMoreOf 33 = .ok (.iconst 0, 1) := by decide +kernel
theorem dX12_isMoreOf_34 : decode cX12_isMoreOf 34 = .ok (.ireturn, 1) := by decide +kernel
theorem dX12_isMoreOf_35 : decode cX12_isMoreOf 35 = .ok (.bipush 24, 2) := by decide +kernel
theorem dX12_isMoreOf_37 : decode cX12_isMoreOf 37 = .ok (.aload_n 0, 1) := by decide +kernel
theorem dX12_isMoreOf_38 : decode cX12_isMoreOf 38 = .ok (.getfield 51, 3) := by decide +kernel
theorem dX12_isMoreOf_41 : decode cX12_isMoreOf 41 = .ok (.imul, 1) := by decide +kernel
theorem dX12_isMoreOf_42 : decode cX12_isMoreOf 42 = .ok (.aload_n 0, 1) := by decide +kernel
theorem dX12_isMoreOf_43 : decode cX12_isMoreOf 43 = .ok (.getfield 137, 3) := by decide +kernel
theorem dX12_isMoreOf_46 : decode cX12_isMoreOf 46 = .ok (.aload_n 0, 1) := by decide +kernel
theorem dX12_isMoreOf_47 : decode cX12_isMoreOf 47 = .ok (.getfield 143, 3) := by decide +kernel
theorem dX12_isMoreOf_50 : decode cX12_isMoreOf 50 = .ok (.iaload, 1) := by decide +kernel
theorem dX12_isMoreOf_51 : decode cX12_isMoreOf 51 = .ok (.iadd, 1) := by decide +kernel
theorem dX12_isMoreOf_52 : decode cX12_isMoreOf 52 = .ok (.istore_n 3, 1) := by decide +kernel
theorem dX12_isMoreOf_53 : decode cX12_isMoreOf 53 = .ok (.aload_n 0, 1) := by decide +kernel
theorem dX12_isMoreOf_54 : decode cX12_isMoreOf 54 = .ok (.getfield 140, 3) := by decide +kernel
theorem dX12_isMoreOf_57 : decode cX12_isMoreOf 57 = .ok (.aload_n 0, 1) := by decide +kernel
theorem dX12_isMoreOf_58 : decode cX12_isMoreOf 58 = .ok (.getfield 143, 3) := by decide +kernel
theorem dX12_isMoreOf_61 : decode cX12_isMoreOf 61 = .ok (.iaload, 1) := by decide +kernel
theorem dX12_isMoreOf_62 : decode cX12_isMoreOf 62 = .ok (.istore 4, 2) := by decide +kernel
theorem dX12_isMoreOf_64 : decode cX12_isMoreOf 64 = .ok (.aload_n 0, 1) := by decide +kernel
theorem dX12_isMoreOf_65 : decode cX12_isMoreOf 65 = .ok (.getfield 134, 3) := by decide +kernel
theorem dX12_isMoreOf_68 : decode cX12_isMoreOf 68 = .ok (.aload_n 0, 1) := by decide +kernel
theorem dX12_isMoreOf_69 : decode cX12_isMoreOf 69 = .ok (.getfield 143, 3) := by decide +kernel
theorem dX12_isMoreOf_72 : decode cX12_isMoreOf 72 = .ok (.aload_n 0, 1) := by decide +kernel
theorem dX12_isMoreOf_73 : decode cX12_isMoreOf 73 = .ok (.getfield 134, 3) := by decide +kernel
theorem dX12_isMoreOf_76 : decode cX12_isMoreOf 76 = .ok (.aload_n 0, 1) := by decide +kernel
theorem dX12_isMoreOf_77 : decode cX12_isMoreOf 77 = .ok (.getfield 143, 3) := by decide +kernel
theorem dX12_isMoreOf_80 : decode cX12_isMoreOf 80 = .ok (.iaload, 1) := by decide +kernel
theorem dX12_isMoreOf_81 : decode cX12_isMoreOf 81 = .ok (.aload_n 0, 1) := by decide +kernel
theorem dX12_isMoreOf_82 : decode cX12_isMoreOf 82 = .ok (.aload_n 0, 1) := by decide +kernel
theorem dX12_isMoreOf_83 : decode cX12_isMoreOf 83 = .ok (.getfield 51, 3) := by decide +kernel
theorem dX12_isMoreOf_86 : decode cX12_isMoreOf 86 = .ok (.aload_n 0, 1) := by decide +kernel
theorem dX12_isMoreOf_87 : decode cX12_isMoreOf 87 = .ok (.getfield 72, 3) := by decide +kernel
theorem dX12_isMoreOf_90 : decode cX12_isMoreOf 90 = .ok (.iconst 2, 1) := by decide +kernel
theorem dX12_isMoreOf_91 : decode cX12_isMoreOf 91 = .ok (.iload_n 3, 1) := by decide +kernel
theorem dX12_isMoreOf_92 : decode cX12_isMoreOf 92 = .ok (.imul, 1) := by decide +kernel
theorem dX12_isMoreOf_93 : decode cX12_isMoreOf 93 = .ok (.iload 4, 2) := by decide +kernel
theorem dX12_isMoreOf_95 : decode cX12_isMoreOf 95 = .ok (.iadd, 1) := by decide +kernel
theorem dX12_isMoreOf_96 : decode cX12_isMoreOf 96 = .ok (.iaload, 1) := by decide +kernel
theorem dX12_isMoreOf_97 : decode cX12_isMoreOf 97 = .ok (.invokevirtual 396, 3) := by decide +kernel
theorem dX12_isMoreOf_100 : decode cX12_isMoreOf 100 = .ok (.imul, 1) := by decide +kernel
theorem dX12_isMoreOf_101 : decode cX12_isMoreOf 101 = .ok (.iload_n 2, 1) := by decide +kernel
theorem dX12_isMoreOf_102 : decode cX12_isMoreOf 102 = .ok (.iadd, 1) := by decide +kernel
theorem dX12_isMoreOf_103 : decode cX12_isMoreOf 103 = .ok (.iastore, 1) := by decide +kernel
theorem dX12_isMoreOf_104 : decode cX12_isMoreOf 104 = .ok (.iload 4, 2) := by decide +kernel
theorem dX12_isMoreOf_106 : decode cX12_isMoreOf 106 = .ok (.iconst 1, 1) := by decide +kernel
theorem dX12_isMoreOf_107 : decode cX12_isMoreOf 107 = .ok (.iadd, 1) := by decide +kernel
theorem dX12_isMoreOf_108 : decode cX12_isMoreOf 108 = .ok (.aload_n 0, 1) := by decide +kernel
theorem dX12_isMoreOf_109 : decode cX12_isMoreOf 109 = .ok (.getfield 69, 3) := by decide +kernel
theorem dX12_isMoreOf_112 : decode cX12_isMoreOf 112 = .ok (.iload_n 3, 1) := by decide +kernel
theorem dX12_isMoreOf_113 : decode cX12_isMoreOf 113 = .ok (.iaload, 1) := by decide +kernel
theorem dX12_isMoreOf_114 : decode cX12_isMoreOf 114 = .ok (.if_icmp .ge 41, 3) := by decide +kernel
theorem dX12_isMoreOf_117 : decode cX12_isMoreOf 117 = .ok (.aload_n 0, 1) := by decide +kernel
theorem dX12_isMoreOf_118 : decode cX12_isMoreOf 118 = .ok (.bipush 44, 2) := by decide +kernel
theorem dX12_isMoreOf_120 : decode cX12_isMoreOf 120 = .ok (.invokevirtual 413, 3) := by decide +kernel
theorem dX12_isMoreOf_123 : decode cX12_isMoreOf 123 = .ok (.aload_n 0, 1) := by decide +kernel
theorem dX12_isMoreOf_124 : decode cX12_isMoreOf 124 = .ok (.getfield 140, 3) := by decide +kernel
theorem dX12_isMoreOf_127 : decode cX12_isMoreOf 127 = .ok (.aload_n 0, 1) := by decide +kernel
theorem dX12_isMoreOf_128 : decode cX12_isMoreOf 128 = .ok (.getfield 143, 3) := by decide +kernel
theorem dX12_isMoreOf_131 : decode cX12_isMoreOf 131 = .ok (.iload 4, 2) := by decide +kernel
theorem dX12_isMoreOf_133 : decode cX12_isMoreOf 133 = .ok (.iconst 1, 1) := by decide +kernel
theorem dX12_isMoreOf_134 : decode cX12_isMoreOf 134 = .ok (.iadd, 1) := by decide +kernel
theorem dX12_isMoreOf_135 : decode cX12_isMoreOf 135 = .ok (.iastore, 1) := by decide +kernel
theorem dX12_isMoreOf_136 : decode cX12_isMoreOf 136 = .ok (.aload_n 0, 1) := by decide +kernel
theorem dX12_isMoreOf_137 : decode cX12_isMoreOf 137 = .ok (.aload_n 0, 1) := by decide +kernel
theorem dX12_isMoreOf_138 : decode cX12_isMoreOf 138 = .ok (.getfield 72, 3) := by decide +kernel
theorem dX12_isMoreOf_141 : decode cX12_isMoreOf 141 = .ok (.iconst 2, 1) := by decide +kernel
theorem dX12_isMoreOf_142 : decode cX12_isMoreOf 142 = .ok (.iload_n 3, 1) := by decide +kernel
theorem dX12_isMoreOf_143 : decode cX12_isMoreOf 143 = .ok (.imul, 1) := by decide +kernel
theorem dX12_isMoreOf_144 : decode cX12_isMoreOf 144 = .ok (.iload 4, 2) := by decide +kernel
theorem dX12_isMoreOf_146 : decode cX12_isMoreOf 146 = .ok (.iadd, 1) := by decide +kernel
theorem dX12_isMoreOf_147 : decode cX12_isMoreOf 147 = .ok (.iconst 1, 1) := by decide +kernel
theorem dX12_isMoreOf_148 : decode cX12_isMoreOf 148 = .ok (.iadd, 1) := by decide +kernel
theorem dX12_isMoreOf_149 : decode cX12_isMoreOf 149 = .ok (.iaload, 1) := by decide +kernel
theorem dX12_isMoreOf_150 : decode cX12_isMoreOf 150 = .ok (.invokevirtual 404, 3) := by decide +kernel
theorem dX12_isMoreOf_153 : decode cX12_isMoreOf 153 = .ok (.iconst 1, 1) := by decide +kernel
theorem dX12_isMoreOf_154 : decode cX12_isMoreOf 154 = .ok (.ireturn, 1) := by decide +kernel
theorem dX12_isMoreOf_155 : decode cX12_isMoreOf 155 = .ok (.aload_n 0, 1) := by decide +kernel
theorem dX12_isMoreOf_156 : decode cX12_isMoreOf 156 = .ok (.bipush 41, 2) := by decide +kernel
theorem dX12_isMoreOf_158 : decode cX12_isMoreOf 158 = .ok (.invokevirtual 413, 3) := by decide +kernel
theorem dX12_isMoreOf_161 : decode cX12_isMoreOf 161 = .ok (.aload_n 0, 1) := by decide +kernel
theorem dX12_isMoreOf_162 : decode cX12_isMoreOf 162 = .ok (.getfield 75, 3) := by decide +kernel
theorem dX12_isMoreOf_165 : decode cX12_isMoreOf 165 = .ok (.iload_n 3, 1) := by decide +kernel
theorem dX12_isMoreOf_166 : decode cX12_isMoreOf 166 = .ok (.iaload, 1) := by decide +kernel
theorem dX12_isMoreOf_167 : decode cX12_isMoreOf 167 = .ok (.aload_n 0, 1) := by decide +kernel
theorem dX12_isMoreOf_168 : decode cX12_isMoreOf 168 = .ok (.getfield 134, 3) := by decide +kernel
theorem dX12_isMoreOf_171 : decode cX12_isMoreOf 171 = .ok (.aload_n 0, 1) := by decide +kernel
theorem dX12_isMoreOf_172 : decode cX12_isMoreOf 172 = .ok (.getfield 143, 3) := by decide +kernel
theorem dX12_isMoreOf_175 : decode cX12_isMoreOf 175 = .ok (.iaload, 1) := by decide +kernel
end
section
theorem dX12_isMoreOf_176 : decode cX12_isMoreOf 176 = .ok (.iadd, 1) := by decide +kernel
theorem dX12_isMoreOf_177 : decode cX12_isMoreOf 177 = .ok (.istore_n 2, 1) := by decide +kernel
theorem dX12_isMoreOf_178 : decode cX12_isMoreOf 178 = .ok (.goto (-176), 3) := by decide +kernel
theorem dX12_isMoreOf_181 : decode cX12_isMoreOf 181 = .ok (.iconst 0, 1) := by decide +kernel
theorem dX12_isMoreOf_182 : decode cX12_isMoreOf 182 = .ok (.ireturn, 1) := by decide +kernel
theorem dX12_row_0 : decode cX12_row 0 = .ok (.aload_n 0, 1) := by decide +kernel
theorem dX12_row_1 : decode cX12_row 1 = .ok (.aload_n 0, 1) := by decide +kernel
theorem dX12_row_2 : decode cX12_row 2 = .ok (.getfield 13, 3) := by decide +kernel
theorem dX12_row_5 : decode cX12_row 5 = .ok (.putfield 17, 3) := by decide +kernel
theorem dX12_row_8 : decode cX12_row 8 = .ok (.aload_n 0, 1) := by decide +kernel
theorem dX12_row_9 : decode cX12_row 9 = .ok (.iconst 0, 1) := by decide +kernel
theorem dX12_row_10 : decode cX12_row 10 = .ok (.putfield 13, 3) := by decide +kernel
theorem dX12_row_13 : decode cX12_row 13 = .ok (.aload_n 0, 1) := by decide +kernel
theorem dX12_row_14 : decode cX12_row 14 = .ok (.iconst 0, 1) := by decide +kernel
theorem dX12_row_15 : decode cX12_row 15 = .ok (.putfield 26, 3) := by decide +kernel
theorem dX12_row_18 : decode cX12_row 18 = .ok (.aload_n 0, 1) := by decide +kernel
theorem dX12_row_19 : decode cX12_row 19 = .ok (.iconst 0, 1) := by decide +kernel
theorem dX12_row_20 : decode cX12_row 20 = .ok (.putfield 36, 3) := by decide +kernel
theorem dX12_row_23 : decode cX12_row 23 = .ok (.aload_n 0, 1) := by decide +kernel
theorem dX12_row_24 : decode cX12_row 24 = .ok (.iconst (-1), 1) := by decide +kernel
theorem dX12_row_25 : decode cX12_row 25 = .ok (.putfield 39, 3) := by decide +kernel
theorem dX12_row_28 : decode cX12_row 28 = .ok (.iconst 0, 1) := by decide +kernel
theorem dX12_row_29 : decode cX12_row 29 = .ok (.istore_n 1, 1) := by decide +kernel
theorem dX12_row_30 : decode cX12_row 30 = .ok (.aload_n 0, 1) := by decide +kernel
theorem dX12_row_31 : decode cX12_row 31 = .ok (.getfield 146, 3) := by decide +kernel
theorem dX12_row_34 : decode cX12_row 34 = .ok (.ifCond .ne 9, 3) := by decide +kernel
theorem dX12_row_37 : decode cX12_row 37 = .ok (.aload_n 0, 1) := by decide +kernel
theorem dX12_row_38 : decode cX12_row 38 = .ok (.iconst 1, 1) := by decide +kernel
theorem dX12_row_39 : decode cX12_row 39 = .ok (.iconst 0, 1) := by decide +kernel
theorem dX12_row_40 : decode cX12_row 40 = .ok (.invokevirtual 320, 3) := by decide +kernel
theorem dX12_row_43 : decode cX12_row 43 = .ok (.aload_n 0, 1) := by decide +kernel
theorem dX12_row_44 : decode cX12_row 44 = .ok (.getfield 36, 3) := by decide +kernel
theorem dX12_row_47 : decode cX12_row 47 = .ok (.ifCond .ne 7, 3) := by decide +kernel
theorem dX12_row_50 : decode cX12_row 50 = .ok (.aload_n 0, 1) := by decide +kernel
theorem dX12_row_51 : decode cX12_row 51 = .ok (.invokevirtual 337, 3) := by decide +kernel
theorem dX12_row_54 : decode cX12_row 54 = .ok (.iconst 0, 1) := by decide +kernel
theorem dX12_row_55 : decode cX12_row 55 = .ok (.istore_n 2, 1) := by decide +kernel
theorem dX12_row_56 : decode cX12_row 56 = .ok (.iload_n 2, 1) := by decide +kernel
theorem dX12_row_57 : decode cX12_row 57 = .ok (.aload_n 0, 1) := by decide +kernel
theorem dX12_row_58 : decode cX12_row 58 = .ok (.invokevirtual 459, 3) := by decide +kernel
theorem dX12_row_61 : decode cX12_row 61 = .ok (.if_icmp .ge 67, 3) := by decide +kernel
theorem dX12_row_64 : decode cX12_row 64 = .ok (.aload_n 0, 1) := by decide +kernel
theorem dX12_row_65 : decode cX12_row 65 = .ok (.getfield 36, 3) := by decide +kernel
theorem dX12_row_68 : decode cX12_row 68 = .ok (.ifCond .ne 60, 3) := by decide +kernel
theorem dX12_row_71 : decode cX12_row 71 = .ok (.iload_n 2, 1) := by decide +kernel
theorem dX12_row_72 : decode cX12_row 72 = .ok (.ifCond .le 7, 3) := by decide +kernel
theorem dX12_row_75 : decode cX12_row 75 = .ok (.aload_n 0, 1) := by decide +kernel
theorem dX12_row_76 : decode cX12_row 76 = .ok (.invokevirtual 331, 3) := by decide +kernel
theorem dX12_row_79 : decode cX12_row 79 = .ok (.iload_n 2, 1) := by decide +kernel
theorem dX12_row_80 : decode cX12_row 80 = .ok (.ifCond .le 9, 3) := by decide +kernel
theorem dX12_row_83 : decode cX12_row 83 = .ok (.aload_n 0, 1) := by decide +kernel
theorem dX12_row_84 : decode cX12_row 84 = .ok (.bipush 44, 2) := by decide +kernel
theorem dX12_row_86 : decode cX12_row 86 = .ok (.invokevirtual 413, 3) := by decide +kernel
theorem dX12_row_89 : decode cX12_row 89 = .ok (.aload_n 0, 1) := by decide +kernel
theorem dX12_row_90 : decode cX12_row 90 = .ok (.getfield 36, 3) := by decide +kernel
theorem dX12_row_93 : decode cX12_row 93 = .ok (.ifCond .ne 29, 3) := by decide +kernel
theorem dX12_row_96 : decode cX12_row 96 = .ok (.iload_n 1, 1) := by decide +kernel
theorem dX12_row_97 : decode cX12_row 97 = .ok (.aload_n 0, 1) := by decide +kernel
theorem dX12_row_98 : decode cX12_row 98 = .ok (.iload_n 2, 1) := by decide +kernel
theorem dX12_row_99 : decode cX12_row 99 = .ok (.invokevirtual 463, 3) := by decide +kernel
theorem dX12_row_102 : decode cX12_row 102 = .ok (.imul, 1) := by decide +kernel
theorem dX12_row_103 : decode cX12_row 103 = .ok (.aload_n 0, 1) := by decide +kernel
theorem dX12_row_104 : decode cX12_row 104 = .ok (.aload_n 0, 1) := by decide +kernel
theorem dX12_row_105 : decode cX12_row 105 = .ok (.getfield 84, 3) := by decide +kernel
theorem dX12_row_108 : decode cX12_row 108 = .ok (.iconst 4, 1) := by decide +kernel
theorem dX12_row_109 : decode cX12_row 109 = .ok (.aload_n 0, 1) := by decide +kernel
theorem dX12_row_110 : decode cX12_row 110 = .ok (.getfield 51, 3) := by decide +kernel
theorem dX12_row_113 : decode cX12_row 113 = .ok (.imul, 1) := by decide +kernel
theorem dX12_row_114 : decode cX12_row 114 = .ok (.iload_n 2, 1) := by decide +kernel
theorem dX12_row_115 : decode cX12_row 115 = .ok (.iadd, 1) := by decide +kernel
theorem dX12_row_116 : decode cX12_row 116 = .ok (.iaload, 1) := by decide +kernel
theorem dX12_row_117 : decode cX12_row 117 = .ok (.invokevirtual 525, 3) := by decide +kernel
theorem dX12_row_120 : decode cX12_row 120 = .ok (.iadd, 1) := by decide +kernel
theorem dX12_row_121 : decode cX12_row 121 = .ok (.istore_n 1, 1) := by decide +kernel
theorem dX12_row_122 : decode cX12_row 122 = .ok (.iinc 2 1, 3) := by decide +kernel
theorem dX12_row_125 : decode cX12_row 125 = .ok (.goto (-69), 3) := by decide +kernel
theorem dX12_row_128 : decode cX12_row 128 = .ok (.aload_n 0, 1) := by decide +kernel
theorem dX12_row_129 : decode cX12_row 129 = .ok (.getfield 36, 3) := by decide +kernel
theorem dX12_row_132 : decode cX12_row 132 = .ok (.ifCond .ne 7, 3) := by decide +kernel
theorem dX12_row_135 : decode cX12_row 135 = .ok (.aload_n 0, 1) := by decide +kernel
theorem dX12_row_136 : decode cX12_row 136 = .ok (.invokevirtual 331, 3) := by decide +kernel
theorem dX12_row_139 : decode cX12_row 139 = .ok (.aload_n 0, 1) := by decide +kernel
theorem dX12_row_140 : decode cX12_row 140 = .ok (.getfield 36, 3) := by decide +kernel
theorem dX12_row_143 : decode cX12_row 143 = .ok (.ifCond .ne 19, 3) := by decide +kernel
theorem dX12_row_146 : decode cX12_row 146 = .ok (.aload_n 0, 1) := by decide +kernel
theorem dX12_row_147 : decode cX12_row 147 = .ok (.getfield 20, 3) := by decide +kernel
theorem dX12_row_150 : decode cX12_row 150 = .ok (.ifCond .eq 12, 3) := by decide +kernel
theorem dX12_row_153 : decode cX12_row 153 = .ok (.aload_n 0, 1) := by decide +kernel
theorem dX12_row_154 : decode cX12_row 154 = .ok (.iconst 1, 1) := by decide +kernel
theorem dX12_row_155 : decode cX12_row 155 = .ok (.aload_n 0, 1) := by decide +kernel
theorem dX12_row_156 : decode cX12_row 156 = .ok (.getfield 23, 3) := by decide +kernel
theorem dX12_row_159 : decode cX12_row 159 = .ok (.invokevirtual 320, 3) := by decide +kernel
theorem dX12_row_162 : decode cX12_row 162 = .ok (.aload_n 0, 1) := by decide +kernel
theorem dX12_row_163 : decode cX12_row 163 = .ok (.aload_n 0, 1) := by decide +kernel
theorem dX12_row_164 : decode cX12_row 164 = .ok (.getfield 36, 3) := by decide +kernel
theorem dX12_row_167 : decode cX12_row 167 = .ok (.putfield 42, 3) := by decide +kernel
theorem dX12_row_170 : decode cX12_row 170 = .ok (.aload_n 0, 1) := by decide +kernel
theorem dX12_row_171 : decode cX12_row 171 = .ok (.aload_n 0, 1) := by decide +kernel
theorem dX12_row_172 : decode cX12_row 172 = .ok (.getfield 39, 3) := by decide +kernel
theorem dX12_row_175 : decode cX12_row 175 = .ok (.putfield 45, 3) := by decide +kernel
theorem dX12_row_178 : decode cX12_row 178 = .ok (.aload_n 0, 1) := by decide +kernel
theorem dX12_row_179 : decode cX12_row 179 = .ok (.getfield 36, 3) := by decide +kernel
theorem dX12_row_182 : decode cX12_row 182 = .ok (.ifCond .le 11, 3) := by decide +kernel
theorem dX12_row_185 : decode cX12_row 185 = .ok (.aload_n 0, 1) := by decide +kernel
theorem dX12_row_186 : decode cX12_row 186 = .ok (.iconst 1, 1) := by decide +kernel
theorem dX12_row_187 : decode cX12_row 187 = .ok (.invokevirtual 312, 3) := by decide +kernel
theorem dX12_row_190 : decode cX12_row 190 = .ok (.goto 4, 3) := by decide +kernel
theorem dX12_row_193 : decode cX12_row 193 = .ok (.iload_n 1, 1) := by decide +kernel
theorem dX12_row_194 : decode cX12_row 194 = .ok (.ireturn, 1) := by decide +kernel
theorem dX12_writes_0 : decode cX12_writes 0 = .ok (.aload_n 0, 1) := by decide +kernel
theorem dX12_writes_1 : decode cX12_writes 1 = .ok (.getfield 221, 3) := by decide +kernel
theorem dX12_writes_4 : decode cX12_writes 4 = .ok (.aload_n 0, 1) := by decide +kernel
theorem dX12_writes_5 : decode cX12_writes 5 = .ok (.getfield 224, 3) := by decide +kernel
theorem dX12_writes_8 : decode cX12_writes 8 = .ok (.iload_n 1, 1) := by decide +kernel
theorem dX12_writes_9 : decode cX12_writes 9 = .ok (.sipush 255, 3) := by decide +kernel
theorem dX12_writes_12 : decode cX12_writes 12 = .ok (.iand, 1) := by decide +kernel
theorem dX12_writes_13 : decode cX12_writes 13 = .ok (.iastore, 1) := by decide +kernel
theorem dX12_writes_14 : decode cX12_writes 14 = .ok (.aload_n 0, 1) := by decide +kernel
theorem dX12_writes_15 : decode cX12_writes 15 = .ok (.dup, 1) := by decide +kernel
theorem dX12_writes_16 : decode cX12_writes 16 = .ok (.getfield 224, 3) := by decide +kernel
theorem dX12_writes_19 : decode cX12_writes 19 = .ok (.iconst 1, 1) := by decide +kernel
theorem dX12_writes_20 : decode cX12_writes 20 = .ok (.iadd, 1) := by decide +kernel
theorem dX12_writes_21 : decode cX12_writes 21 = .ok (.putfield 224, 3) := by decide +kernel
theorem dX12_writes_24 : decode cX12_writes 24 = .ok (.return_, 1) := by decide +kernel
theorem dX12_writesName_0 : decode cX12_writesName 0 = .ok (.lload_n 1, 1) := by decide +kernel
theorem dX12_writesName_1 : decode cX12_writesName 1 = .ok (.invokestatic 487, 3) := by decide +kernel
theorem dX12_writesName_4 : decode cX12_writesName 4 = .ok (.iconst 1, 1) := by decide +kernel
theorem dX12_writesName_5 : decode cX12_writesName 5 = .ok (.isub, 1) := by decide +kernel
theorem dX12_writesName_6 : decode cX12_writesName 6 = .ok (.istore_n 3, 1) := by decide +kernel
theorem dX12_writesName_7 : decode cX12_writesName 7 = .ok (.iload_n 3, 1) := by decide +kernel
theorem dX12_writesName_8 : decode cX12_writesName 8 = .ok (.ifCond .lt 24, 3) := by decide +kernel
theorem dX12_writesName_11 : decode cX12_writesName 11 = .ok (.aload_n 0, 1) := by decide +kernel
theorem dX12_writesName_12 : decode cX12_writesName 12 = .ok (.lload_n 1, 1) := by decide +kernel
theorem dX12_writesName_13 : decode cX12_writesName 13 = .ok (.bipush 8, 2) := by decide +kernel
theorem dX12_writesName_15 : decode cX12_writesName 15 = .ok (.iload_n 3, 1) := by decide +kernel
theorem dX12_writesName_16 : decode cX12_writesName 16 = .ok (.imul, 1) := by decide +kernel
theorem dX12_writesName_17 : decode cX12_writesName 17 = .ok (.lshr, 1) := by decide +kernel
theorem dX12_writesName_18 : decode cX12_writesName 18 = .ok (.ldc2_w 490, 3) := by decide +kernel
theorem dX12_writesName_21 : decode cX12_writesName 21 = .ok (.land, 1) := by decide +kernel
theorem dX12_writesName_22 : decode cX12_writesName 22 = .ok (.l2i, 1) := by decide +kernel
theorem dX12_writesName_23 : decode cX12_writesName 23 = .ok (.invokevirtual 528, 3) := by decide +kernel
theorem dX12_writesName_26 : decode cX12_writesName 26 = .ok (.iinc 3 (-1), 3) := by decide +kernel
theorem dX12_writesName_29 : decode cX12_writesName 29 = .ok (.goto (-22), 3) := by decide +kernel
theorem dX12_writesName_32 : decode cX12_writesName 32 = .ok (.return_, 1) := by decide +kernel
theorem dX12_later_0 : decode cX12_later 0 = .ok (.aload_n 0, 1) := by decide +kernel
theorem dX12_later_1 : decode cX12_later 1 = .ok (.getfield 227, 3) := by decide +kernel
theorem dX12_later_4 : decode cX12_later 4 = .ok (.aload_n 0, 1) := by decide +kernel
theorem dX12_later_5 : decode cX12_later 5 = .ok (.getfield 233, 3) := by decide +kernel
theorem dX12_later_8 : decode cX12_later 8 = .ok (.iload_n 1, 1) := by decide +kernel
theorem dX12_later_9 : decode cX12_later 9 = .ok (.iastore, 1) := by decide +kernel
theorem dX12_later_10 : decode cX12_later 10 = .ok (.aload_n 0, 1) := by decide +kernel
theorem dX12_later_11 : decode cX12_later 11 = .ok (.getfield 230, 3) := by decide +kernel
theorem dX12_later_14 : decode cX12_later 14 = .ok (.aload_n 0, 1) := by decide +kernel
theorem dX12_later_15 : decode cX12_later 15 = .ok (.getfield 233, 3) := by decide +kernel
theorem dX12_later_18 : decode cX12_later 18 = .ok (.iload_n 2, 1) := by decide +kernel
theorem dX12_later_19 : decode cX12_later 19 = .ok (.iastore, 1) := by decide +kernel
theorem dX12_later_20 : decode cX12_later 20 = .ok (.aload_n 0, 1) := by decide +kernel
theorem dX12_later_21 : decode cX12_later 21 = .ok (.dup, 1) := by decide +kernel
theorem dX12_later_22 : decode cX12_later 22 = .ok (.getfield 233, 3) := by decide +kernel
theorem dX12_later_25 : decode cX12_later 25 = .ok (.iconst 1, 1) := by decide +kernel
theorem dX12_later_26 : decode cX12_later 26 = .ok (.iadd, 1) := by decide +kernel
theorem dX12_later_27 : decode cX12_later 27 = .ok (.putfield 233, 3) := by decide +kernel
theorem dX12_later_30 : decode cX12_later 30 = .ok (.return_, 1) := by decide +kernel
theorem dX12_conOf_0 : decode cX12_conOf 0 = .ok (.iconst 0, 1) := by decide +kernel
theorem dX12_conOf_1 : decode cX12_conOf 1 = .ok (.istore_n 3, 1) := by decide +kernel
theorem dX12_conOf_2 : decode cX12_conOf 2 = .ok (.iload_n 3, 1) := by decide +kernel
theorem dX12_conOf_3 : decode cX12_conOf 3 = .ok (.aload_n 0, 1) := by decide +kernel
theorem dX12_conOf_4 : decode cX12_conOf 4 = .ok (.getfield 63, 3) := by decide +kernel
theorem dX12_conOf_7 : decode cX12_conOf 7 = .ok (.aload_n 0, 1) := by decide +kernel
theorem dX12_conOf_8 : decode cX12_conOf 8 = .ok (.getfield 51, 3) := by decide +kernel
theorem dX12_conOf_11 : decode cX12_conOf 11 = .ok (.iaload, 1) := by decide +kernel
theorem dX12_conOf_12 : decode cX12_conOf 12 = .ok (.if_icmp .ge 64, 3) := by decide +kernel
theorem dX12_conOf_15 : decode cX12_conOf 15 = .ok (.bipush 24, 2) := by decide +kernel
theorem dX12_conOf_17 : decode cX12_conOf 17 = .ok (.aload_n 0, 1) := by decide +kernel
theorem dX12_conOf_18 : decode cX12_conOf 18 = .ok (.getfield 51, 3) := by decide +kernel
theorem dX12_conOf_21 : decode cX12_conOf 21 = .ok (.imul, 1) := by decide +kernel
theorem dX12_conOf_22 : decode cX12_conOf 22 = .ok (.iload_n 3, 1) := by decide +kernel
theorem dX12_conOf_23 : decode cX12_conOf 23 = .ok (.iadd, 1) := by decide +kernel
theorem dX12_conOf_24 : decode cX12_conOf 24 = .ok (.istore 4, 2) := by decide +kernel
theorem dX12_conOf_26 : decode cX12_conOf 26 = .ok (.aload_n 0, 1) := by decide +kernel
theorem dX12_conOf_27 : decode cX12_conOf 27 = .ok (.getfield 66, 3) := by decide +kernel
theorem dX12_conOf_30 : decode cX12_conOf 30 = .ok (.iload 4, 2) := by decide +kernel
theorem dX12_conOf_32 : decode cX12_conOf 32 = .ok (.iaload, 1) := by decide +kernel
theorem dX12_conOf_33 : decode cX12_conOf 33 = .ok (.iload_n 1, 1) := by decide +kernel
theorem dX12_conOf_34 : decode cX12_conOf 34 = .ok (.if_icmp .ne 36, 3) := by decide +kernel
theorem dX12_conOf_37 : decode cX12_conOf 37 = .ok (.iload_n 2, 1) := by decide +kernel
theorem dX12_conOf_38 : decode cX12_conOf 38 = .ok (.aload_n 0, 1) := by decide +kernel
theorem dX12_conOf_39 : decode cX12_conOf 39 = .ok (.getfield 75, 3) := by decide +kernel
theorem dX12_conOf_42 : decode cX12_conOf 42 = .ok (.iload 4, 2) := by decide +kernel
theorem dX12_conOf_44 : decode cX12_conOf 44 = .ok (.iaload, 1) := by decide +kernel
theorem dX12_conOf_45 : decode cX12_conOf 45 = .ok (.aload_n 0, 1) := by decide +kernel
theorem dX12_conOf_46 : decode cX12_conOf 46 = .ok (.getfield 75, 3) := by decide +kernel
theorem dX12_conOf_49 : decode cX12_conOf 49 = .ok (.iload 4, 2) := by decide +kernel
theorem dX12_conOf_51 : decode cX12_conOf 51 = .ok (.iaload, 1) := by decide +kernel
theorem dX12_conOf_52 : decode cX12_conOf 52 = .ok (.aload_n 0, 1) := by decide +kernel
theorem dX12_conOf_53 : decode cX12_conOf 53 = .ok (.getfield 78, 3) := by decide +kernel
theorem dX12_conOf_56 : decode cX12_conOf 56 = .ok (.iload 4, 2) := by decide +kernel
theorem dX12_conOf_58 : decode cX12_conOf 58 = .ok (.iaload, 1) := by decide +kernel
theorem dX12_conOf_59 : decode cX12_conOf 59 = .ok (.iadd, 1) := by decide +kernel
theorem dX12_conOf_60 : decode cX12_conOf 60 = .ok (.iconst 1, 1) := by decide +kernel
theorem dX12_conOf_61 : decode cX12_conOf 61 = .ok (.isub, 1) := by decide +kernel
theorem dX12_conOf_62 : decode cX12_conOf 62 = .ok (.invokestatic 362, 3) := by decide +kernel
theorem dX12_conOf_65 : decode cX12_conOf 65 = .ok (.ifCond .eq 5, 3) := by decide +kernel
theorem dX12_conOf_68 : decode cX12_conOf 68 = .ok (.iload_n 3, 1) := by decide +kernel
theorem dX12_conOf_69 : decode cX12_conOf 69 = .ok (.ireturn, 1) := by decide +kernel
theorem dX12_conOf_70 : decode cX12_conOf 70 = .ok (.iinc 3 1, 3) := by decide +kernel
theorem dX12_conOf_73 : decode cX12_conOf 73 = .ok (.goto (-71), 3) := by decide +kernel
theorem dX12_writesValue_0 : decode cX12_writesValue 0 = .ok (.iload_n 1, 1) := by decide +kernel
theorem dX12_writesValue_1 : decode cX12_writesValue 1 = .ok (.iconst 4, 1) := by decide +kernel
theorem dX12_writesValue_2 : decode cX12_writesValue 2 = .ok (.if_icmp .ne 32, 3) := by decide +kernel
theorem dX12_writesValue_5 : decode cX12_writesValue 5 = .ok (.iload_n 2, 1) := by decide +kernel
theorem dX12_writesValue_6 : decode cX12_writesValue 6 = .ok (.bipush 9, 2) := by decide +kernel
theorem dX12_writesValue_8 : decode cX12_writesValue 8 = .ok (.if_icmp .le 14, 3) := by decide +kernel
theorem dX12_writesValue_11 : decode cX12_writesValue 11 = .ok (.aload_n 0, 1) := by decide +kernel
theorem dX12_writesValue_12 : decode cX12_writesValue 12 = .ok (.bipush 48, 2) := by decide +kernel
theorem dX12_writesValue_14 : decode cX12_writesValue 14 = .ok (.iload_n 2, 1) := by decide +kernel
theorem dX12_writesValue_15 : decode cX12_writesValue 15 = .ok (.bipush 10, 2) := by decide +kernel
theorem dX12_writesValue_17 : decode cX12_writesValue 17 = .ok (.idiv, 1) := by decide +kernel
theorem dX12_writesValue_18 : decode cX12_writesValue 18 = .ok (.iadd, 1) := by decide +kernel
theorem dX12_writesValue_19 : decode cX12_writesValue 19 = .ok (.invokevirtual 528, 3) := by decide +kernel
theorem dX12_writesValue_22 : decode cX12_writesValue 22 = .ok (.aload_n 0, 1) := by decide +kernel
theorem dX12_writesValue_23 : decode cX12_writesValue 23 = .ok (.bipush 48, 2) := by decide +kernel
theorem dX12_writesValue_25 : decode cX12_writesValue 25 = .ok (.iload_n 2, 1) := by decide +kernel
theorem dX12_writesValue_26 : decode cX12_writesValue 26 = .ok (.bipush 10, 2) := by decide +kernel
theorem dX12_writesValue_28 : decode cX12_writesValue 28 = .ok (.irem, 1) := by decide +kernel
theorem dX12_writesValue_29 : decode cX12_writesValue 29 = .ok (.iadd, 1) := by decide +kernel
theorem dX12_writesValue_30 : decode cX12_writesValue 30 = .ok (.invokevirtual 528, 3) := by decide +kernel
theorem dX12_writesValue_33 : decode cX12_writesValue 33 = .ok (.return_, 1) := by decide +kernel
theorem dX12_writesValue_34 : decode cX12_writesValue 34 = .ok (.aload_n 0, 1) := by decide +kernel
theorem dX12_writesValue_35 : decode cX12_writesValue 35 = .ok (.iload_n 1, 1) := by decide +kernel
theorem dX12_writesValue_36 : decode cX12_writesValue 36 = .ok (.iload_n 2, 1) := by decide +kernel
theorem dX12_writesValue_37 : decode cX12_writesValue 37 = .ok (.invokevirtual 531, 3) := by decide +kernel
theorem dX12_writesValue_40 : decode cX12_writesValue 40 = .ok (.istore_n 3, 1) := by decide +kernel
theorem dX12_writesValue_41 : decode cX12_writesValue 41 = .ok (.bipush 24, 2) := by decide +kernel
theorem dX12_writesValue_43 : decode cX12_writesValue 43 = .ok (.aload_n 0, 1) := by decide +kernel
theorem dX12_writesValue_44 : decode cX12_writesValue 44 = .ok (.getfield 51, 3) := by decide +kernel
theorem dX12_writesValue_47 : decode cX12_writesValue 47 = .ok (.imul, 1) := by decide +kernel
theorem dX12_writesValue_48 : decode cX12_writesValue 48 = .ok (.iload_n 3, 1) := by decide +kernel
theorem dX12_writesValue_49 : decode cX12_writesValue 49 = .ok (.iadd, 1) := by decide +kernel
theorem dX12_writesValue_50 : decode cX12_writesValue 50 = .ok (.istore 4, 2) := by decide +kernel
theorem dX12_writesValue_52 : decode cX12_writesValue 52 = .ok (.aload_n 0, 1) := by decide +kernel
theorem dX12_writesValue_53 : decode cX12_writesValue 53 = .ok (.aload_n 0, 1) := by decide +kernel
theorem dX12_writesValue_54 : decode cX12_writesValue 54 = .ok (.getfield 118, 3) := by decide +kernel
theorem dX12_writesValue_57 : decode cX12_writesValue 57 = .ok (.iload 4, 2) := by decide +kernel
theorem dX12_writesValue_59 : decode cX12_writesValue 59 = .ok (.laload, 1) := by decide +kernel
theorem dX12_writesValue_60 : decode cX12_writesValue 60 = .ok (.invokevirtual 534, 3) := by decide +kernel
theorem dX12_writesValue_63 : decode cX12_writesValue 63 = .ok (.aload_n 0, 1) := by decide +kernel
theorem dX12_writesValue_64 : decode cX12_writesValue 64 = .ok (.getfield 69, 3) := by decide +kernel
theorem dX12_writesValue_67 : decode cX12_writesValue 67 = .ok (.iload 4, 2) := by decide +kernel
theorem dX12_writesValue_69 : decode cX12_writesValue 69 = .ok (.iaload, 1) := by decide +kernel
theorem dX12_writesValue_70 : decode cX12_writesValue 70 = .ok (.ifCond .ne 4, 3) := by decide +kernel
theorem dX12_writesValue_73 : decode cX12_writesValue 73 = .ok (.return_, 1) := by decide +kernel
theorem dX12_writesValue_74 : decode cX12_writesValue 74 = .ok (.aload_n 0, 1) := by decide +kernel
theorem dX12_writesValue_75 : decode cX12_writesValue 75 = .ok (.iconst 5, 1) := by decide +kernel
theorem dX12_writesValue_76 : decode cX12_writesValue 76 = .ok (.bipush 41, 2) := by decide +kernel
theorem dX12_writesValue_78 : decode cX12_writesValue 78 = .ok (.invokevirtual 538, 3) := by decide +kernel
theorem dX12_writesValue_81 : decode cX12_writesValue 81 = .ok (.aload_n 0, 1) := by decide +kernel
theorem dX12_writesValue_82 : decode cX12_writesValue 82 = .ok (.getfield 69, 3) := by decide +kernel
theorem dX12_writesValue_85 : decode cX12_writesValue 85 = .ok (.iload 4, 2) := by decide +kernel
theorem dX12_writesValue_87 : decode cX12_writesValue 87 = .ok (.iaload, 1) := by decide +kernel
theorem dX12_writesValue_88 : decode cX12_writesValue 88 = .ok (.iconst 1, 1) := by decide +kernel
theorem dX12_writesValue_89 : decode cX12_writesValue 89 = .ok (.isub, 1) := by decide +kernel
theorem dX12_writesValue_90 : decode cX12_writesValue 90 = .ok (.istore 5, 2) := by decide +kernel
theorem dX12_writesValue_92 : decode cX12_writesValue 92 = .ok (.iload 5, 2) := by decide +kernel
theorem dX12_writesValue_94 : decode cX12_writesValue 94 = .ok (.ifCond .lt 50, 3) := by decide +kernel
theorem dX12_writesValue_97 : decode cX12_writesValue 97 = .ok (.aload_n 0, 1) := by decide +kernel
theorem dX12_writesValue_98 : decode cX12_writesValue 98 = .ok (.aload_n 0, 1) := by decide +kernel
theorem dX12_writesValue_99 : decode cX12_writesValue 99 = .ok (.getfield 72, 3) := by decide +kernel
theorem dX12_writesValue_102 : decode cX12_writesValue 102 = .ok (.iconst 2, 1) := by decide +kernel
theorem dX12_writesValue_103 : decode cX12_writesValue 103 = .ok (.iload 4, 2) := by decide +kernel
theorem dX12_writesValue_105 : decode cX12_writesValue 105 = .ok (.imul, 1) := by decide +kernel
theorem dX12_writesValue_106 : decode cX12_writesValue 106 = .ok (.iload 5, 2) := by decide +kernel
theorem dX12_writesValue_108 : decode cX12_writesValue 108 = .ok (.iadd, 1) := by decide +kernel
theorem dX12_writesValue_109 : decode cX12_writesValue 109 = .ok (.iaload, 1) := by decide +kernel
theorem dX12_writesValue_110 : decode cX12_writesValue 110 = .ok (.aload_n 0, 1) := by decide +kernel
theorem dX12_writesValue_111 : decode cX12_writesValue 111 = .ok (.iload_n 2, 1) := by decide +kernel
theorem dX12_writesValue_112 : decode cX12_writesValue 112 = .ok (.iload_n 3, 1) := by decide +kernel
theorem dX12_writesValue_113 : decode cX12_writesValue 113 = .ok (.iload 5, 2) := by decide +kernel
theorem dX12_writesValue_115 : decode cX12_writesValue 115 = .ok (.invokevirtual 455, 3) := by decide +kernel
theorem dX12_writesValue_118 : decode cX12_writesValue 118 = .ok (.invokevirtual 538, 3) := by decide +kernel
theorem dX12_writesValue_121 : decode cX12_writesValue 121 = .ok (.aload_n 0, 1) := by decide +kernel
theorem dX12_writesValue_122 : decode cX12_writesValue 122 = .ok (.iconst 5, 1) := by decide +kernel
theorem dX12_writesValue_123 : decode cX12_writesValue 123 = .ok (.iload 5, 2) := by decide +kernel
theorem dX12_writesValue_125 : decode cX12_writesValue 125 = .ok (.ifCond .ne 8, 3) := by decide +kernel
theorem dX12_writesValue_128 : decode cX12_writesValue 128 = .ok (.bipush 40, 2) := by decide +kernel
theorem dX12_writesValue_130 : decode cX12_writesValue 130 = .ok (.goto 5, 3) := by decide +kernel
theorem dX12_writesValue_133 : decode cX12_writesValue 133 = .ok (.bipush 44, 2) := by decide +kernel
theorem dX12_writesValue_135 : decode cX12_writesValue 135 = .ok (.invokevirtual 538, 3) := by decide +kernel
theorem dX12_writesValue_138 : decode cX12_writesValue 138 = .ok (.iinc 5 (-1), 3) := by decide +kernel
theorem dX12_writesValue_141 : decode cX12_writesValue 141 = .ok (.goto (-49), 3) := by decide +kernel
theorem dX12_writesValue_144 : decode cX12_writesValue 144 = .ok (.return_, 1) := by decide +kernel
theorem dX12_text_0 : decode cX12_text 0 = .ok (.aload_n 0, 1) := by decide +kernel
theorem dX12_text_1 : decode cX12_text 1 = .ok (.iload_n 1, 1) := by decide +kernel
theorem dX12_text_2 : decode cX12_text 2 = .ok (.invokevirtual 516, 3) := by decide +kernel
theorem dX12_text_5 : decode cX12_text 5 = .ok (.ifCond .ne 5, 3) := by decide +kernel
theorem dX12_text_8 : decode cX12_text 8 = .ok (.iconst (-1), 1) := by decide +kernel
theorem dX12_text_9 : decode cX12_text 9 = .ok (.ireturn, 1) := by decide +kernel
theorem dX12_text_10 : decode cX12_text 10 = .ok (.aload_n 0, 1) := by decide +kernel
theorem dX12_text_11 : decode cX12_text 11 = .ok (.iload_n 1, 1) := by decide +kernel
theorem dX12_text_12 : decode cX12_text 12 = .ok (.invokevirtual 478, 3) := by decide +kernel
theorem dX12_text_15 : decode cX12_text 15 = .ok (.aload_n 0, 1) := by decide +kernel
theorem dX12_text_16 : decode cX12_text 16 = .ok (.iconst 0, 1) := by decide +kernel
theorem dX12_text_17 : decode cX12_text 17 = .ok (.putfield 224, 3) := by decide +kernel
theorem dX12_text_20 : decode cX12_text 20 = .ok (.aload_n 0, 1) := by decide +kernel
theorem dX12_text_21 : decode cX12_text 21 = .ok (.iconst 0, 1) := by decide +kernel
theorem dX12_text_22 : decode cX12_text 22 = .ok (.putfield 233, 3) := by decide +kernel
theorem dX12_text_25 : decode cX12_text 25 = .ok (.aload_n 0, 1) := by decide +kernel
theorem dX12_text_26 : decode cX12_text 26 = .ok (.invokevirtual 459, 3) := by decide +kernel
theorem dX12_text_29 : decode cX12_text 29 = .ok (.iconst 1, 1) := by decide +kernel
theorem dX12_text_30 : decode cX12_text 30 = .ok (.isub, 1) := by decide +kernel
theorem dX12_text_31 : decode cX12_text 31 = .ok (.istore_n 2, 1) := by decide +kernel
theorem dX12_text_32 : decode cX12_text 32 = .ok (.iload_n 2, 1) := by decide +kernel
theorem dX12_text_33 : decode cX12_text 33 = .ok (.ifCond .lt 43, 3) := by decide +kernel
theorem dX12_text_36 : decode cX12_text 36 = .ok (.aload_n 0, 1) := by decide +kernel
theorem dX12_text_37 : decode cX12_text 37 = .ok (.aload_n 0, 1) := by decide +kernel
theorem dX12_text_38 : decode cX12_text 38 = .ok (.getfield 84, 3) := by decide +kernel
theorem dX12_text_41 : decode cX12_text 41 = .ok (.iconst 4, 1) := by decide +kernel
theorem dX12_text_42 : decode cX12_text 42 = .ok (.aload_n 0, 1) := by decide +kernel
theorem dX12_text_43 : decode cX12_text 43 = .ok (.getfield 51, 3) := by decide +kernel
theorem dX12_text_46 : decode cX12_text 46 = .ok (.imul, 1) := by decide +kernel
theorem dX12_text_47 : decode cX12_text 47 = .ok (.iload_n 2, 1) := by decide +kernel
theorem dX12_text_48 : decode cX12_text 48 = .ok (.iadd, 1) := by decide +kernel
theorem dX12_text_49 : decode cX12_text 49 = .ok (.iaload, 1) := by decide +kernel
theorem dX12_text_50 : decode cX12_text 50 = .ok (.aload_n 0, 1) := by decide +kernel
theorem dX12_text_51 : decode cX12_text 51 = .ok (.getfield 215, 3) := by decide +kernel
theorem dX12_text_54 : decode cX12_text 54 = .ok (.iload_n 2, 1) := by decide +kernel
theorem dX12_text_55 : decode cX12_text 55 = .ok (.iaload, 1) := by decide +kernel
theorem dX12_text_56 : decode cX12_text 56 = .ok (.invokevirtual 538, 3) := by decide +kernel
theorem dX12_text_59 : decode cX12_text 59 = .ok (.iload_n 2, 1) := by decide +kernel
theorem dX12_text_60 : decode cX12_text 60 = .ok (.ifCond .le 10, 3) := by decide +kernel
theorem dX12_text_63 : decode cX12_text 63 = .ok (.aload_n 0, 1) := by decide +kernel
theorem dX12_text_64 : decode cX12_text 64 = .ok (.iconst 5, 1) := by decide +kernel
theorem dX12_text_65 : decode cX12_text 65 = .ok (.bipush 44, 2) := by decide +kernel
theorem dX12_text_67 : decode cX12_text 67 = .ok (.invokevirtual 538, 3) := by decide +kernel
theorem dX12_text_70 : decode cX12_text 70 = .ok (.iinc 2 (-1), 3) := by decide +kernel
theorem dX12_text_73 : decode cX12_text 73 = .ok (.goto (-41), 3) := by decide +kernel
theorem dX12_text_76 : decode cX12_text 76 = .ok (.aload_n 0, 1) := by decide +kernel
theorem dX12_text_77 : decode cX12_text 77 = .ok (.getfield 233, 3) := by decide +kernel
theorem dX12_text_80 : decode cX12_text 80 = .ok (.ifCond .le 55, 3) := by decide +kernel
theorem dX12_text_83 : decode cX12_text 83 = .ok (.aload_n 0, 1) := by decide +kernel
theorem dX12_text_84 : decode cX12_text 84 = .ok (.dup, 1) := by decide +kernel
theorem dX12_text_85 : decode cX12_text 85 = .ok (.getfield 233, 3) := by decide +kernel
theorem dX12_text_88 : decode cX12_text 88 = .ok (.iconst 1, 1) := by decide +kernel
theorem dX12_text_89 : decode cX12_text 89 = .ok (.isub, 1) := by decide +kernel
theorem dX12_text_90 : decode cX12_text 90 = .ok (.putfield 233, 3) := by decide +kernel
theorem dX12_text_93 : decode cX12_text 93 = .ok (.aload_n 0, 1) := by decide +kernel
theorem dX12_text_94 : decode cX12_text 94 = .ok (.getfield 227, 3) := by decide +kernel
theorem dX12_text_97 : decode cX12_text 97 = .ok (.aload_n 0, 1) := by decide +kernel
theorem dX12_text_98 : decode cX12_text 98 = .ok (.getfield 233, 3) := by decide +kernel
theorem dX12_text_101 : decode cX12_text 101 = .ok (.iaload, 1) := by decide +kernel
theorem dX12_text_102 : decode cX12_text 102 = .ok (.istore_n 2, 1) := by decide +kernel
theorem dX12_text_103 : decode cX12_text 103 = .ok (.aload_n 0, 1) := by decide +kernel
theorem dX12_text_104 : decode cX12_text 104 = .ok (.getfield 230, 3) := by decide +kernel
theorem dX12_text_107 : decode cX12_text 107 = .ok (.aload_n 0, 1) := by decide +kernel
theorem dX12_text_108 : decode cX12_text 108 = .ok (.getfield 233, 3) := by decide +kernel
theorem dX12_text_111 : decode cX12_text 111 = .ok (.iaload, 1) := by decide +kernel
theorem dX12_text_112 : decode cX12_text 112 = .ok (.istore_n 3, 1) := by decide +kernel
theorem dX12_text_113 : decode cX12_text 113 = .ok (.iload_n 2, 1) := by decide +kernel
theorem dX12_text_114 : decode cX12_text 114 = .ok (.iconst 5, 1) := by decide +kernel
theorem dX12_text_115 : decode cX12_text 115 = .ok (.if_icmp .ne 11, 3) := by decide +kernel
theorem dX12_text_118 : decode cX12_text 118 = .ok (.aload_n 0, 1) := by decide +kernel
theorem dX12_text_119 : decode cX12_text 119 = .ok (.iload_n 3, 1) := by decide +kernel
theorem dX12_text_120 : decode cX12_text 120 = .ok (.invokevirtual 528, 3) := by decide +kernel
theorem dX12_text_123 : decode cX12_text 123 = .ok (.goto 9, 3) := by decide +kernel
theorem dX12_text_126 : decode cX12_text 126 = .ok (.aload_n 0, 1) := by decide +kernel
theorem dX12_text_127 : decode cX12_text 127 = .ok (.iload_n 2, 1) := by decide +kernel
theorem dX12_text_128 : decode cX12_text 128 = .ok (.iload_n 3, 1) := by decide +kernel
theorem dX12_text_129 : decode cX12_text 129 = .ok (.invokevirtual 541, 3) := by decide +kernel
theorem dX12_text_132 : decode cX12_text 132 = .ok (.goto (-56), 3) := by decide +kernel
theorem dX12_text_135 : decode cX12_text 135 = .ok (.aload_n 0, 1) := by decide +kernel
theorem dX12_text_136 : decode cX12_text 136 = .ok (.getfield 224, 3) := by decide +kernel
theorem dX12_text_139 : decode cX12_text 139 = .ok (.ireturn, 1) := by decide +kernel
theorem dX12_octet_0 : decode cX12_octet 0 = .ok (.iload_n 1, 1) := by decide +kernel
theorem dX12_octet_1 : decode cX12_octet 1 = .ok (.iconst 0, 1) := by decide +kernel
theorem dX12_octet_2 : decode cX12_octet 2 = .ok (.aload_n 0, 1) := by decide +kernel
theorem dX12_octet_3 : decode cX12_octet 3 = .ok (.getfield 224, 3) := by decide +kernel
theorem dX12_octet_6 : decode cX12_octet 6 = .ok (.iconst 1, 1) := by decide +kernel
theorem dX12_octet_7 : decode cX12_octet 7 = .ok (.isub, 1) := by decide +kernel
theorem dX12_octet_8 : decode cX12_octet 8 = .ok (.invokestatic 362, 3) := by decide +kernel
theorem dX12_octet_11 : decode cX12_octet 11 = .ok (.ifCond .eq 12, 3) := by decide +kernel
theorem dX12_octet_14 : decode cX12_octet 14 = .ok (.aload_n 0, 1) := by decide +kernel
theorem dX12_octet_15 : decode cX12_octet 15 = .ok (.getfield 221, 3) := by decide +kernel
theorem dX12_octet_18 : decode cX12_octet 18 = .ok (.iload_n 1, 1) := by decide +kernel
theorem dX12_octet_19 : decode cX12_octet 19 = .ok (.iaload, 1) := by decide +kernel
theorem dX12_octet_20 : decode cX12_octet 20 = .ok (.goto 4, 3) := by decide +kernel
theorem dX12_octet_23 : decode cX12_octet 23 = .ok (.iconst (-1), 1) := by decide +kernel
theorem dX12_octet_24 : decode cX12_octet 24 = .ok (.ireturn, 1) := by decide +kernel
theorem dX12_leftOf_0 : decode cX12_leftOf 0 = .ok (.iload_n 0, 1) := by decide +kernel
theorem dX12_leftOf_1 : decode cX12_leftOf 1 = .ok (.iload_n 1, 1) := by decide +kernel
theorem dX12_leftOf_2 : decode cX12_leftOf 2 = .ok (.bipush 12, 2) := by decide +kernel
theorem dX12_leftOf_4 : decode cX12_leftOf 4 = .ok (.ishl, 1) := by decide +kernel
theorem dX12_leftOf_5 : decode cX12_leftOf 5 = .ok (.ior, 1) := by decide +kernel
theorem dX12_leftOf_6 : decode cX12_leftOf 6 = .ok (.ireturn, 1) := by decide +kernel
theorem dX12_armsIn_0 : decode cX12_armsIn 0 = .ok (.iload_n 0, 1) := by decide +kernel
theorem dX12_armsIn_1 : decode cX12_armsIn 1 = .ok (.sipush 4095, 3) := by decide +kernel
theorem dX12_armsIn_4 : decode cX12_armsIn 4 = .ok (.iand, 1) := by decide +kernel
theorem dX12_armsIn_5 : decode cX12_armsIn 5 = .ok (.ireturn, 1) := by decide +kernel
theorem dX12_columnsIn_0 : decode cX12_columnsIn 0 = .ok (.iload_n 0, 1) := by decide +kernel
theorem dX12_columnsIn_1 : decode cX12_columnsIn 1 = .ok (.bipush 12, 2) := by decide +kernel
theorem dX12_columnsIn_3 : decode cX12_columnsIn 3 = .ok (.ishr, 1) := by decide +kernel
theorem dX12_columnsIn_4 : decode cX12_columnsIn 4 = .ok (.ireturn, 1) := by decide +kernel
theorem dX12_worthOf_0 : decode cX12_worthOf 0 = .ok (.iconst 0, 1) := by decide +kernel
theorem dX12_worthOf_1 : decode cX12_worthOf 1 = .ok (.istore_n 3, 1) := by decide +kernel
theorem dX12_worthOf_2 : decode cX12_worthOf 2 = .ok (.aload_n 0, 1) := by decide +kernel
theorem dX12_worthOf_3 : decode cX12_worthOf 3 = .ok (.getfield 243, 3) := by decide +kernel
theorem dX12_worthOf_6 : decode cX12_worthOf 6 = .ok (.ifCond .ne 5, 3) := by decide +kernel
theorem dX12_worthOf_9 : decode cX12_worthOf 9 = .ok (.iconst 0, 1) := by decide +kernel
theorem dX12_worthOf_10 : decode cX12_worthOf 10 = .ok (.ireturn, 1) := by decide +kernel
theorem dX12_worthOf_11 : decode cX12_worthOf 11 = .ok (.aload_n 0, 1) := by decide +kernel
theorem dX12_worthOf_12 : decode cX12_worthOf 12 = .ok (.getfield 243, 3) := by decide +kernel
theorem dX12_worthOf_15 : decode cX12_worthOf 15 = .ok (.iconst 1, 1) := by decide +kernel
theorem dX12_worthOf_16 : decode cX12_worthOf 16 = .ok (.if_icmp .ne 45, 3) := by decide +kernel
theorem dX12_worthOf_19 : decode cX12_worthOf 19 = .ok (.iload_n 1, 1) := by decide +kernel
theorem dX12_worthOf_20 : decode cX12_worthOf 20 = .ok (.istore 4, 2) := by decide +kernel
theorem dX12_worthOf_22 : decode cX12_worthOf 22 = .ok (.iload 4, 2) := by decide +kernel
theorem dX12_worthOf_24 : decode cX12_worthOf 24 = .ok (.ifCond .le 35, 3) := by decide +kernel
theorem dX12_worthOf_27 : decode cX12_worthOf 27 = .ok (.aload_n 0, 1) := by decide +kernel
theorem dX12_worthOf_28 : decode cX12_worthOf 28 = .ok (.getfield 206, 3) := by decide +kernel
theorem dX12_worthOf_31 : decode cX12_worthOf 31 = .ok (.iload_n 2, 1) := by decide +kernel
theorem dX12_worthOf_32 : decode cX12_worthOf 32 = .ok (.iaload, 1) := by decide +kernel
theorem dX12_worthOf_33 : decode cX12_worthOf 33 = .ok (.iload 4, 2) := by decide +kernel
theorem dX12_worthOf_35 : decode cX12_worthOf 35 = .ok (.invokestatic 495, 3) := by decide +kernel
theorem dX12_worthOf_38 : decode cX12_worthOf 38 = .ok (.ishr, 1) := by decide +kernel
theorem dX12_worthOf_39 : decode cX12_worthOf 39 = .ok (.iconst 1, 1) := by decide +kernel
theorem dX12_worthOf_40 : decode cX12_worthOf 40 = .ok (.iand, 1) := by decide +kernel
theorem dX12_worthOf_41 : decode cX12_worthOf 41 = .ok (.ifCond .ne 18, 3) := by decide +kernel
theorem dX12_worthOf_44 : decode cX12_worthOf 44 = .ok (.iinc 3 1, 3) := by decide +kernel
theorem dX12_worthOf_47 : decode cX12_worthOf 47 = .ok (.iload 4, 2) := by decide +kernel
end
