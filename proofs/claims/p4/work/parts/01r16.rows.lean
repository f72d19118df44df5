theorem dX12_fresh_12 : decode cX12_fresh 12 = .ok (.lreturn, 1) := by decide +kernel
theorem dX12_fresh_13 : decode cX12_fresh 13 = .ok (.aload_n 0, 1) := by decide +kernel
theorem dX12_fresh_14 : decode cX12_fresh 14 = .ok (.getfield 20, 3) := by decide +kernel
theorem dX12_fresh_17 : decode cX12_fresh 17 = .ok (.iconst 1, 1) := by decide +kernel
theorem dX12_fresh_18 : decode cX12_fresh 18 = .ok (.if_icmp .ne 14, 3) := by decide +kernel
theorem dX12_fresh_21 : decode cX12_fresh 21 = .ok (.aload_n 0, 1) := by decide +kernel
theorem dX12_fresh_22 : decode cX12_fresh 22 = .ok (.aload_n 0, 1) := by decide +kernel
theorem dX12_fresh_23 : decode cX12_fresh 23 = .ok (.getfield 32, 3) := by decide +kernel
theorem dX12_fresh_26 : decode cX12_fresh 26 = .ok (.invokevirtual 366, 3) := by decide +kernel
theorem dX12_fresh_29 : decode cX12_fresh 29 = .ok (.ifCond .eq 12, 3) := by decide +kernel
theorem dX12_fresh_32 : decode cX12_fresh 32 = .ok (.aload_n 0, 1) := by decide +kernel
theorem dX12_fresh_33 : decode cX12_fresh 33 = .ok (.iconst 1, 1) := by decide +kernel
theorem dX12_fresh_34 : decode cX12_fresh 34 = .ok (.aload_n 0, 1) := by decide +kernel
theorem dX12_fresh_35 : decode cX12_fresh 35 = .ok (.getfield 23, 3) := by decide +kernel
theorem dX12_fresh_38 : decode cX12_fresh 38 = .ok (.invokevirtual 320, 3) := by decide +kernel
theorem dX12_fresh_41 : decode cX12_fresh 41 = .ok (.aload_n 0, 1) := by decide +kernel
theorem dX12_fresh_42 : decode cX12_fresh 42 = .ok (.getfield 36, 3) := by decide +kernel
theorem dX12_fresh_45 : decode cX12_fresh 45 = .ok (.ifCond .ne 40, 3) := by decide +kernel
theorem dX12_fresh_48 : decode cX12_fresh 48 = .ok (.aload_n 0, 1) := by decide +kernel
theorem dX12_fresh_49 : decode cX12_fresh 49 = .ok (.aload_n 0, 1) := by decide +kernel
theorem dX12_fresh_50 : decode cX12_fresh 50 = .ok (.getfield 32, 3) := by decide +kernel
theorem dX12_fresh_53 : decode cX12_fresh 53 = .ok (.invokevirtual 370, 3) := by decide +kernel
theorem dX12_fresh_56 : decode cX12_fresh 56 = .ok (.iconst (-1), 1) := by decide +kernel
theorem dX12_fresh_57 : decode cX12_fresh 57 = .ok (.if_icmp .ne 19, 3) := by decide +kernel
theorem dX12_fresh_60 : decode cX12_fresh 60 = .ok (.aload_n 0, 1) := by decide +kernel
theorem dX12_fresh_61 : decode cX12_fresh 61 = .ok (.aload_n 0, 1) := by decide +kernel
theorem dX12_fresh_62 : decode cX12_fresh 62 = .ok (.getfield 124, 3) := by decide +kernel
theorem dX12_fresh_65 : decode cX12_fresh 65 = .ok (.aload_n 0, 1) := by decide +kernel
theorem dX12_fresh_66 : decode cX12_fresh 66 = .ok (.getfield 32, 3) := by decide +kernel
theorem dX12_fresh_69 : decode cX12_fresh 69 = .ok (.invokevirtual 374, 3) := by decide +kernel
theorem dX12_fresh_72 : decode cX12_fresh 72 = .ok (.iconst (-1), 1) := by decide +kernel
theorem dX12_fresh_73 : decode cX12_fresh 73 = .ok (.if_icmp .eq 12, 3) := by decide +kernel
theorem dX12_fresh_76 : decode cX12_fresh 76 = .ok (.aload_n 0, 1) := by decide +kernel
theorem dX12_fresh_77 : decode cX12_fresh 77 = .ok (.iconst 2, 1) := by decide +kernel
theorem dX12_fresh_78 : decode cX12_fresh 78 = .ok (.aload_n 0, 1) := by decide +kernel
theorem dX12_fresh_79 : decode cX12_fresh 79 = .ok (.getfield 23, 3) := by decide +kernel
theorem dX12_fresh_82 : decode cX12_fresh 82 = .ok (.invokevirtual 320, 3) := by decide +kernel
theorem dX12_fresh_85 : decode cX12_fresh 85 = .ok (.aload_n 0, 1) := by decide +kernel
theorem dX12_fresh_86 : decode cX12_fresh 86 = .ok (.getfield 32, 3) := by decide +kernel
theorem dX12_fresh_89 : decode cX12_fresh 89 = .ok (.lstore_n 1, 1) := by decide +kernel
theorem dX12_fresh_90 : decode cX12_fresh 90 = .ok (.aload_n 0, 1) := by decide +kernel
theorem dX12_fresh_91 : decode cX12_fresh 91 = .ok (.getfield 36, 3) := by decide +kernel
theorem dX12_fresh_94 : decode cX12_fresh 94 = .ok (.ifCond .ne 7, 3) := by decide +kernel
theorem dX12_fresh_97 : decode cX12_fresh 97 = .ok (.aload_n 0, 1) := by decide +kernel
theorem dX12_fresh_98 : decode cX12_fresh 98 = .ok (.invokevirtual 337, 3) := by decide +kernel
theorem dX12_fresh_101 : decode cX12_fresh 101 = .ok (.lload_n 1, 1) := by decide +kernel
theorem dX12_fresh_102 : decode cX12_fresh 102 = .ok (.lreturn, 1) := by decide +kernel
theorem dX12_kindIs_0 : decode cX12_kindIs 0 = .ok (.aload_n 0, 1) := by decide +kernel
theorem dX12_kindIs_1 : decode cX12_kindIs 1 = .ok (.getfield 127, 3) := by decide +kernel
theorem dX12_kindIs_4 : decode cX12_kindIs 4 = .ok (.ifCond .eq 12, 3) := by decide +kernel
theorem dX12_kindIs_7 : decode cX12_kindIs 7 = .ok (.aload_n 0, 1) := by decide +kernel
theorem dX12_kindIs_8 : decode cX12_kindIs 8 = .ok (.iconst 1, 1) := by decide +kernel
theorem dX12_kindIs_9 : decode cX12_kindIs 9 = .ok (.aload_n 0, 1) := by decide +kernel
theorem dX12_kindIs_10 : decode cX12_kindIs 10 = .ok (.getfield 23, 3) := by decide +kernel
theorem dX12_kindIs_13 : decode cX12_kindIs 13 = .ok (.invokevirtual 320, 3) := by decide +kernel
theorem dX12_kindIs_16 : decode cX12_kindIs 16 = .ok (.aload_n 0, 1) := by decide +kernel
theorem dX12_kindIs_17 : decode cX12_kindIs 17 = .ok (.aload_n 0, 1) := by decide +kernel
theorem dX12_kindIs_18 : decode cX12_kindIs 18 = .ok (.getfield 54, 3) := by decide +kernel
theorem dX12_kindIs_21 : decode cX12_kindIs 21 = .ok (.aload_n 0, 1) := by decide +kernel
theorem dX12_kindIs_22 : decode cX12_kindIs 22 = .ok (.getfield 124, 3) := by decide +kernel
theorem dX12_kindIs_25 : decode cX12_kindIs 25 = .ok (.iaload, 1) := by decide +kernel
theorem dX12_kindIs_26 : decode cX12_kindIs 26 = .ok (.iconst 4, 1) := by decide +kernel
theorem dX12_kindIs_27 : decode cX12_kindIs 27 = .ok (.if_icmp .ne 7, 3) := by decide +kernel
theorem dX12_kindIs_30 : decode cX12_kindIs 30 = .ok (.iconst 1, 1) := by decide +kernel
theorem dX12_kindIs_31 : decode cX12_kindIs 31 = .ok (.goto 4, 3) := by decide +kernel
theorem dX12_kindIs_34 : decode cX12_kindIs 34 = .ok (.iconst 0, 1) := by decide +kernel
theorem dX12_kindIs_35 : decode cX12_kindIs 35 = .ok (.invokevirtual 378, 3) := by decide +kernel
theorem dX12_kindIs_38 : decode cX12_kindIs 38 = .ok (.ifCond .ne 4, 3) := by decide +kernel
theorem dX12_kindIs_41 : decode cX12_kindIs 41 = .ok (.return_, 1) := by decide +kernel
theorem dX12_kindIs_42 : decode cX12_kindIs 42 = .ok (.aload_n 0, 1) := by decide +kernel
theorem dX12_kindIs_43 : decode cX12_kindIs 43 = .ok (.invokevirtual 382, 3) := by decide +kernel
theorem dX12_kindIs_46 : decode cX12_kindIs 46 = .ok (.lstore_n 1, 1) := by decide +kernel
theorem dX12_kindIs_47 : decode cX12_kindIs 47 = .ok (.aload_n 0, 1) := by decide +kernel
theorem dX12_kindIs_48 : decode cX12_kindIs 48 = .ok (.getfield 36, 3) := by decide +kernel
theorem dX12_kindIs_51 : decode cX12_kindIs 51 = .ok (.ifCond .le 4, 3) := by decide +kernel
theorem dX12_kindIs_54 : decode cX12_kindIs 54 = .ok (.return_, 1) := by decide +kernel
theorem dX12_kindIs_55 : decode cX12_kindIs 55 = .ok (.iconst 4, 1) := by decide +kernel
theorem dX12_kindIs_56 : decode cX12_kindIs 56 = .ok (.aload_n 0, 1) := by decide +kernel
theorem dX12_kindIs_57 : decode cX12_kindIs 57 = .ok (.getfield 124, 3) := by decide +kernel
theorem dX12_kindIs_60 : decode cX12_kindIs 60 = .ok (.imul, 1) := by decide +kernel
theorem dX12_kindIs_61 : decode cX12_kindIs 61 = .ok (.aload_n 0, 1) := by decide +kernel
theorem dX12_kindIs_62 : decode cX12_kindIs 62 = .ok (.getfield 54, 3) := by decide +kernel
theorem dX12_kindIs_65 : decode cX12_kindIs 65 = .ok (.aload_n 0, 1) := by decide +kernel
theorem dX12_kindIs_66 : decode cX12_kindIs 66 = .ok (.getfield 124, 3) := by decide +kernel
theorem dX12_kindIs_69 : decode cX12_kindIs 69 = .ok (.iaload, 1) := by decide +kernel
theorem dX12_kindIs_70 : decode cX12_kindIs 70 = .ok (.iadd, 1) := by decide +kernel
theorem dX12_kindIs_71 : decode cX12_kindIs 71 = .ok (.istore_n 3, 1) := by decide +kernel
theorem dX12_kindIs_72 : decode cX12_kindIs 72 = .ok (.aload_n 0, 1) := by decide +kernel
theorem dX12_kindIs_73 : decode cX12_kindIs 73 = .ok (.getfield 114, 3) := by decide +kernel
theorem dX12_kindIs_76 : decode cX12_kindIs 76 = .ok (.iload_n 3, 1) := by decide +kernel
theorem dX12_kindIs_77 : decode cX12_kindIs 77 = .ok (.lload_n 1, 1) := by decide +kernel
theorem dX12_kindIs_78 : decode cX12_kindIs 78 = .ok (.lastore, 1) := by decide +kernel
theorem dX12_kindIs_79 : decode cX12_kindIs 79 = .ok (.aload_n 0, 1) := by decide +kernel
theorem dX12_kindIs_80 : decode cX12_kindIs 80 = .ok (.getfield 57, 3) := by decide +kernel
theorem dX12_kindIs_83 : decode cX12_kindIs 83 = .ok (.iload_n 3, 1) := by decide +kernel
theorem dX12_kindIs_84 : decode cX12_kindIs 84 = .ok (.iconst 0, 1) := by decide +kernel
theorem dX12_kindIs_85 : decode cX12_kindIs 85 = .ok (.iastore, 1) := by decide +kernel
theorem dX12_kindIs_86 : decode cX12_kindIs 86 = .ok (.aload_n 0, 1) := by decide +kernel
theorem dX12_kindIs_87 : decode cX12_kindIs 87 = .ok (.getfield 60, 3) := by decide +kernel
theorem dX12_kindIs_90 : decode cX12_kindIs 90 = .ok (.iload_n 3, 1) := by decide +kernel
theorem dX12_kindIs_91 : decode cX12_kindIs 91 = .ok (.iconst 0, 1) := by decide +kernel
theorem dX12_kindIs_92 : decode cX12_kindIs 92 = .ok (.iastore, 1) := by decide +kernel
theorem dX12_kindIs_93 : decode cX12_kindIs 93 = .ok (.aload_n 0, 1) := by decide +kernel
theorem dX12_kindIs_94 : decode cX12_kindIs 94 = .ok (.getfield 54, 3) := by decide +kernel
theorem dX12_kindIs_97 : decode cX12_kindIs 97 = .ok (.aload_n 0, 1) := by decide +kernel
theorem dX12_kindIs_98 : decode cX12_kindIs 98 = .ok (.getfield 124, 3) := by decide +kernel
theorem dX12_kindIs_101 : decode cX12_kindIs 101 = .ok (.dup2, 1) := by decide +kernel
theorem dX12_kindIs_102 : decode cX12_kindIs 102 = .ok (.iaload, 1) := by decide +kernel
theorem dX12_kindIs_103 : decode cX12_kindIs 103 = .ok (.iconst 1, 1) := by decide +kernel
theorem dX12_kindIs_104 : decode cX12_kindIs 104 = .ok (.iadd, 1) := by decide +kernel
theorem dX12_kindIs_105 : decode cX12_kindIs 105 = .ok (.iastore, 1) := by decide +kernel
theorem dX12_kindIs_106 : decode cX12_kindIs 106 = .ok (.return_, 1) := by decide +kernel
theorem dX12_known_0 : decode cX12_known 0 = .ok (.aload_n 0, 1) := by decide +kernel
theorem dX12_known_1 : decode cX12_known 1 = .ok (.invokevirtual 331, 3) := by decide +kernel
theorem dX12_known_4 : decode cX12_known 4 = .ok (.aload_n 0, 1) := by decide +kernel
theorem dX12_known_5 : decode cX12_known 5 = .ok (.getfield 36, 3) := by decide +kernel
theorem dX12_known_8 : decode cX12_known 8 = .ok (.ifCond .le 5, 3) := by decide +kernel
theorem dX12_known_11 : decode cX12_known 11 = .ok (.iconst 0, 1) := by decide +kernel
theorem dX12_known_12 : decode cX12_known 12 = .ok (.ireturn, 1) := by decide +kernel
theorem dX12_known_13 : decode cX12_known 13 = .ok (.aload_n 0, 1) := by decide +kernel
theorem dX12_known_14 : decode cX12_known 14 = .ok (.ldc2_w 354, 3) := by decide +kernel
theorem dX12_known_17 : decode cX12_known 17 = .ok (.invokevirtual 386, 3) := by decide +kernel
theorem dX12_known_20 : decode cX12_known 20 = .ok (.istore_n 2, 1) := by decide +kernel
theorem dX12_known_21 : decode cX12_known 21 = .ok (.aload_n 0, 1) := by decide +kernel
theorem dX12_known_22 : decode cX12_known 22 = .ok (.getfield 20, 3) := by decide +kernel
theorem dX12_known_25 : decode cX12_known 25 = .ok (.iconst 1, 1) := by decide +kernel
theorem dX12_known_26 : decode cX12_known 26 = .ok (.if_icmp .ne 18, 3) := by decide +kernel
theorem dX12_known_29 : decode cX12_known 29 = .ok (.aload_n 0, 1) := by decide +kernel
theorem dX12_known_30 : decode cX12_known 30 = .ok (.aload_n 0, 1) := by decide +kernel
theorem dX12_known_31 : decode cX12_known 31 = .ok (.getfield 32, 3) := by decide +kernel
theorem dX12_known_34 : decode cX12_known 34 = .ok (.invokevirtual 366, 3) := by decide +kernel
theorem dX12_known_37 : decode cX12_known 37 = .ok (.ifCond .eq 16, 3) := by decide +kernel
theorem dX12_known_40 : decode cX12_known 40 = .ok (.iload_n 2, 1) := by decide +kernel
theorem dX12_known_41 : decode cX12_known 41 = .ok (.ifCond .ne 12, 3) := by decide +kernel
theorem dX12_known_44 : decode cX12_known 44 = .ok (.aload_n 0, 1) := by decide +kernel
theorem dX12_known_45 : decode cX12_known 45 = .ok (.iconst 1, 1) := by decide +kernel
theorem dX12_known_46 : decode cX12_known 46 = .ok (.aload_n 0, 1) := by decide +kernel
theorem dX12_known_47 : decode cX12_known 47 = .ok (.getfield 23, 3) := by decide +kernel
theorem dX12_known_50 : decode cX12_known 50 = .ok (.invokevirtual 320, 3) := by decide +kernel
theorem dX12_known_53 : decode cX12_known 53 = .ok (.aload_n 0, 1) := by decide +kernel
theorem dX12_known_54 : decode cX12_known 54 = .ok (.getfield 36, 3) := by decide +kernel
theorem dX12_known_57 : decode cX12_known 57 = .ok (.ifCond .gt 7, 3) := by decide +kernel
theorem dX12_known_60 : decode cX12_known 60 = .ok (.iload_n 2, 1) := by decide +kernel
theorem dX12_known_61 : decode cX12_known 61 = .ok (.ifCond .eq 7, 3) := by decide +kernel
theorem dX12_known_64 : decode cX12_known 64 = .ok (.iconst 4, 1) := by decide +kernel
theorem dX12_known_65 : decode cX12_known 65 = .ok (.goto 11, 3) := by decide +kernel
theorem dX12_known_68 : decode cX12_known 68 = .ok (.aload_n 0, 1) := by decide +kernel
theorem dX12_known_69 : decode cX12_known 69 = .ok (.aload_n 0, 1) := by decide +kernel
theorem dX12_known_70 : decode cX12_known 70 = .ok (.getfield 32, 3) := by decide +kernel
theorem dX12_known_73 : decode cX12_known 73 = .ok (.invokevirtual 370, 3) := by decide +kernel
theorem dX12_known_76 : decode cX12_known 76 = .ok (.istore_n 3, 1) := by decide +kernel
theorem dX12_known_77 : decode cX12_known 77 = .ok (.aload_n 0, 1) := by decide +kernel
theorem dX12_known_78 : decode cX12_known 78 = .ok (.getfield 36, 3) := by decide +kernel
theorem dX12_known_81 : decode cX12_known 81 = .ok (.ifCond .ne 42, 3) := by decide +kernel
theorem dX12_known_84 : decode cX12_known 84 = .ok (.iload_n 2, 1) := by decide +kernel
theorem dX12_known_85 : decode cX12_known 85 = .ok (.ifCond .ne 38, 3) := by decide +kernel
theorem dX12_known_88 : decode cX12_known 88 = .ok (.iload_n 3, 1) := by decide +kernel
theorem dX12_known_89 : decode cX12_known 89 = .ok (.iconst (-1), 1) := by decide +kernel
theorem dX12_known_90 : decode cX12_known 90 = .ok (.if_icmp .eq 24, 3) := by decide +kernel
theorem dX12_known_93 : decode cX12_known 93 = .ok (.iload_n 3, 1) := by decide +kernel
theorem dX12_known_94 : decode cX12_known 94 = .ok (.iload_n 1, 1) := by decide +kernel
theorem dX12_known_95 : decode cX12_known 95 = .ok (.if_icmp .ge 19, 3) := by decide +kernel
theorem dX12_known_98 : decode cX12_known 98 = .ok (.aload_n 0, 1) := by decide +kernel
theorem dX12_known_99 : decode cX12_known 99 = .ok (.getfield 57, 3) := by decide +kernel
theorem dX12_known_102 : decode cX12_known 102 = .ok (.iconst 4, 1) := by decide +kernel
theorem dX12_known_103 : decode cX12_known 103 = .ok (.aload_n 0, 1) := by decide +kernel
theorem dX12_known_104 : decode cX12_known 104 = .ok (.getfield 124, 3) := by decide +kernel
theorem dX12_known_107 : decode cX12_known 107 = .ok (.imul, 1) := by decide +kernel
theorem dX12_known_108 : decode cX12_known 108 = .ok (.iload_n 3, 1) := by decide +kernel
theorem dX12_known_109 : decode cX12_known 109 = .ok (.iadd, 1) := by decide +kernel
theorem dX12_known_110 : decode cX12_known 110 = .ok (.iaload, 1) := by decide +kernel
theorem dX12_known_111 : decode cX12_known 111 = .ok (.ifCond .ne 12, 3) := by decide +kernel
theorem dX12_known_114 : decode cX12_known 114 = .ok (.aload_n 0, 1) := by decide +kernel
theorem dX12_known_115 : decode cX12_known 115 = .ok (.iconst 3, 1) := by decide +kernel
theorem dX12_known_116 : decode cX12_known 116 = .ok (.aload_n 0, 1) := by decide +kernel
theorem dX12_known_117 : decode cX12_known 117 = .ok (.getfield 23, 3) := by decide +kernel
theorem dX12_known_120 : decode cX12_known 120 = .ok (.invokevirtual 320, 3) := by decide +kernel
theorem dX12_known_123 : decode cX12_known 123 = .ok (.aload_n 0, 1) := by decide +kernel
theorem dX12_known_124 : decode cX12_known 124 = .ok (.getfield 36, 3) := by decide +kernel
theorem dX12_known_127 : decode cX12_known 127 = .ok (.ifCond .le 7, 3) := by decide +kernel
theorem dX12_known_130 : decode cX12_known 130 = .ok (.iconst 4, 1) := by decide +kernel
theorem dX12_known_131 : decode cX12_known 131 = .ok (.goto 4, 3) := by decide +kernel
theorem dX12_known_134 : decode cX12_known 134 = .ok (.iload_n 3, 1) := by decide +kernel
theorem dX12_known_135 : decode cX12_known 135 = .ok (.ireturn, 1) := by decide +kernel
theorem dX12_isKindHere_0 : decode cX12_isKindHere 0 = .ok (.aload_n 0, 1) := by decide +kernel
theorem dX12_isKindHere_1 : decode cX12_isKindHere 1 = .ok (.getfield 20, 3) := by decide +kernel
theorem dX12_isKindHere_4 : decode cX12_isKindHere 4 = .ok (.iconst 1, 1) := by decide +kernel
theorem dX12_isKindHere_5 : decode cX12_isKindHere 5 = .ok (.if_icmp .ne 36, 3) := by decide +kernel
theorem dX12_isKindHere_8 : decode cX12_isKindHere 8 = .ok (.aload_n 0, 1) := by decide +kernel
theorem dX12_isKindHere_9 : decode cX12_isKindHere 9 = .ok (.getfield 48, 3) := by decide +kernel
theorem dX12_isKindHere_12 : decode cX12_isKindHere 12 = .ok (.iconst (-1), 1) := by decide +kernel
theorem dX12_isKindHere_13 : decode cX12_isKindHere 13 = .ok (.if_icmp .ne 28, 3) := by decide +kernel
theorem dX12_isKindHere_16 : decode cX12_isKindHere 16 = .ok (.aload_n 0, 1) := by decide +kernel
theorem dX12_isKindHere_17 : decode cX12_isKindHere 17 = .ok (.ldc2_w 354, 3) := by decide +kernel
theorem dX12_isKindHere_20 : decode cX12_isKindHere 20 = .ok (.invokevirtual 386, 3) := by decide +kernel
theorem dX12_isKindHere_23 : decode cX12_isKindHere 23 = .ok (.ifCond .ne 14, 3) := by decide +kernel
theorem dX12_isKindHere_26 : decode cX12_isKindHere 26 = .ok (.aload_n 0, 1) := by decide +kernel
theorem dX12_isKindHere_27 : decode cX12_isKindHere 27 = .ok (.aload_n 0, 1) := by decide +kernel
theorem dX12_isKindHere_28 : decode cX12_isKindHere 28 = .ok (.getfield 32, 3) := by decide +kernel
theorem dX12_isKindHere_31 : decode cX12_isKindHere 31 = .ok (.invokevirtual 366, 3) := by decide +kernel
theorem dX12_isKindHere_34 : decode cX12_isKindHere 34 = .ok (.ifCond .ne 7, 3) := by decide +kernel
theorem dX12_isKindHere_37 : decode cX12_isKindHere 37 = .ok (.iconst 1, 1) := by decide +kernel
theorem dX12_isKindHere_38 : decode cX12_isKindHere 38 = .ok (.goto 4, 3) := by decide +kernel
theorem dX12_isKindHere_41 : decode cX12_isKindHere 41 = .ok (.iconst 0, 1) := by decide +kernel
theorem dX12_isKindHere_42 : decode cX12_isKindHere 42 = .ok (.ireturn, 1) := by decide +kernel
theorem dX12_conIs_0 : decode cX12_conIs 0 = .ok (.aload_n 0, 1) := by decide +kernel
theorem dX12_conIs_1 : decode cX12_conIs 1 = .ok (.getfield 54, 3) := by decide +kernel
theorem dX12_conIs_4 : decode cX12_conIs 4 = .ok (.aload_n 0, 1) := by decide +kernel
theorem dX12_conIs_5 : decode cX12_conIs 5 = .ok (.getfield 124, 3) := by decide +kernel
theorem dX12_conIs_8 : decode cX12_conIs 8 = .ok (.iaload, 1) := by decide +kernel
theorem dX12_conIs_9 : decode cX12_conIs 9 = .ok (.iconst 1, 1) := by decide +kernel
theorem dX12_conIs_10 : decode cX12_conIs 10 = .ok (.isub, 1) := by decide +kernel
theorem dX12_conIs_11 : decode cX12_conIs 11 = .ok (.istore_n 1, 1) := by decide +kernel
theorem dX12_conIs_12 : decode cX12_conIs 12 = .ok (.aload_n 0, 1) := by decide +kernel
theorem dX12_conIs_13 : decode cX12_conIs 13 = .ok (.getfield 127, 3) := by decide +kernel
theorem dX12_conIs_16 : decode cX12_conIs 16 = .ok (.ifCond .ne 7, 3) := by decide +kernel
theorem dX12_conIs_19 : decode cX12_conIs 19 = .ok (.iload_n 1, 1) := by decide +kernel
theorem dX12_conIs_20 : decode cX12_conIs 20 = .ok (.ifCond .ge 12, 3) := by decide +kernel
theorem dX12_conIs_23 : decode cX12_conIs 23 = .ok (.aload_n 0, 1) := by decide +kernel
theorem dX12_conIs_24 : decode cX12_conIs 24 = .ok (.iconst 1, 1) := by decide +kernel
theorem dX12_conIs_25 : decode cX12_conIs 25 = .ok (.aload_n 0, 1) := by decide +kernel
theorem dX12_conIs_26 : decode cX12_conIs 26 = .ok (.getfield 23, 3) := by decide +kernel
theorem dX12_conIs_29 : decode cX12_conIs 29 = .ok (.invokevirtual 320, 3) := by decide +kernel
theorem dX12_conIs_32 : decode cX12_conIs 32 = .ok (.aload_n 0, 1) := by decide +kernel
theorem dX12_conIs_33 : decode cX12_conIs 33 = .ok (.iload_n 1, 1) := by decide +kernel
theorem dX12_conIs_34 : decode cX12_conIs 34 = .ok (.ifCond .lt 25, 3) := by decide +kernel
theorem dX12_conIs_37 : decode cX12_conIs 37 = .ok (.aload_n 0, 1) := by decide +kernel
theorem dX12_conIs_38 : decode cX12_conIs 38 = .ok (.getfield 60, 3) := by decide +kernel
theorem dX12_conIs_41 : decode cX12_conIs 41 = .ok (.iconst 4, 1) := by decide +kernel
theorem dX12_conIs_42 : decode cX12_conIs 42 = .ok (.aload_n 0, 1) := by decide +kernel
theorem dX12_conIs_43 : decode cX12_conIs 43 = .ok (.getfield 124, 3) := by decide +kernel
theorem dX12_conIs_46 : decode cX12_conIs 46 = .ok (.imul, 1) := by decide +kernel
theorem dX12_conIs_47 : decode cX12_conIs 47 = .ok (.iload_n 1, 1) := by decide +kernel
theorem dX12_conIs_48 : decode cX12_conIs 48 = .ok (.iadd, 1) := by decide +kernel
theorem dX12_conIs_49 : decode cX12_conIs 49 = .ok (.iaload, 1) := by decide +kernel
theorem dX12_conIs_50 : decode cX12_conIs 50 = .ok (.bipush 6, 2) := by decide +kernel
theorem dX12_conIs_52 : decode cX12_conIs 52 = .ok (.if_icmp .ne 7, 3) := by decide +kernel
theorem dX12_conIs_55 : decode cX12_conIs 55 = .ok (.iconst 1, 1) := by decide +kernel
theorem dX12_conIs_56 : decode cX12_conIs 56 = .ok (.goto 4, 3) := by decide +kernel
theorem dX12_conIs_59 : decode cX12_conIs 59 = .ok (.iconst 0, 1) := by decide +kernel
theorem dX12_conIs_60 : decode cX12_conIs 60 = .ok (.invokevirtual 378, 3) := by decide +kernel
theorem dX12_conIs_63 : decode cX12_conIs 63 = .ok (.ifCond .ne 4, 3) := by decide +kernel
theorem dX12_conIs_66 : decode cX12_conIs 66 = .ok (.return_, 1) := by decide +kernel
theorem dX12_conIs_67 : decode cX12_conIs 67 = .ok (.aload_n 0, 1) := by decide +kernel
theorem dX12_conIs_68 : decode cX12_conIs 68 = .ok (.invokevirtual 382, 3) := by decide +kernel
theorem dX12_conIs_71 : decode cX12_conIs 71 = .ok (.lstore_n 2, 1) := by decide +kernel
theorem dX12_conIs_72 : decode cX12_conIs 72 = .ok (.aload_n 0, 1) := by decide +kernel
theorem dX12_conIs_73 : decode cX12_conIs 73 = .ok (.getfield 36, 3) := by decide +kernel
theorem dX12_conIs_76 : decode cX12_conIs 76 = .ok (.ifCond .le 4, 3) := by decide +kernel
theorem dX12_conIs_79 : decode cX12_conIs 79 = .ok (.return_, 1) := by decide +kernel
theorem dX12_conIs_80 : decode cX12_conIs 80 = .ok (.bipush 24, 2) := by decide +kernel
theorem dX12_conIs_82 : decode cX12_conIs 82 = .ok (.aload_n 0, 1) := by decide +kernel
theorem dX12_conIs_83 : decode cX12_conIs 83 = .ok (.getfield 124, 3) := by decide +kernel
theorem dX12_conIs_86 : decode cX12_conIs 86 = .ok (.imul, 1) := by decide +kernel
theorem dX12_conIs_87 : decode cX12_conIs 87 = .ok (.aload_n 0, 1) := by decide +kernel
theorem dX12_conIs_88 : decode cX12_conIs 88 = .ok (.getfield 63, 3) := by decide +kernel
theorem dX12_conIs_91 : decode cX12_conIs 91 = .ok (.aload_n 0, 1) := by decide +kernel
theorem dX12_conIs_92 : decode cX12_conIs 92 = .ok (.getfield 124, 3) := by decide +kernel
theorem dX12_conIs_95 : decode cX12_conIs 95 = .ok (.iaload, 1) := by decide +kernel
theorem dX12_conIs_96 : decode cX12_conIs 96 = .ok (.iadd, 1) := by decide +kernel
theorem dX12_conIs_97 : decode cX12_conIs 97 = .ok (.istore 4, 2) := by decide +kernel
theorem dX12_conIs_99 : decode cX12_conIs 99 = .ok (.aload_n 0, 1) := by decide +kernel
theorem dX12_conIs_100 : decode cX12_conIs 100 = .ok (.getfield 57, 3) := by decide +kernel
theorem dX12_conIs_103 : decode cX12_conIs 103 = .ok (.iconst 4, 1) := by decide +kernel
theorem dX12_conIs_104 : decode cX12_conIs 104 = .ok (.aload_n 0, 1) := by decide +kernel
theorem dX12_conIs_105 : decode cX12_conIs 105 = .ok (.getfield 124, 3) := by decide +kernel
theorem dX12_conIs_108 : decode cX12_conIs 108 = .ok (.imul, 1) := by decide +kernel
theorem dX12_conIs_109 : decode cX12_conIs 109 = .ok (.iload_n 1, 1) := by decide +kernel
theorem dX12_conIs_110 : decode cX12_conIs 110 = .ok (.iadd, 1) := by decide +kernel
theorem dX12_conIs_111 : decode cX12_conIs 111 = .ok (.iaload, 1) := by decide +kernel
theorem dX12_conIs_112 : decode cX12_conIs 112 = .ok (.istore 5, 2) := by decide +kernel
theorem dX12_conIs_114 : decode cX12_conIs 114 = .ok (.aload_n 0, 1) := by decide +kernel
theorem dX12_conIs_115 : decode cX12_conIs 115 = .ok (.getfield 118, 3) := by decide +kernel
theorem dX12_conIs_118 : decode cX12_conIs 118 = .ok (.iload 4, 2) := by decide +kernel
theorem dX12_conIs_120 : decode cX12_conIs 120 = .ok (.lload_n 2, 1) := by decide +kernel
theorem dX12_conIs_121 : decode cX12_conIs 121 = .ok (.lastore, 1) := by decide +kernel
theorem dX12_conIs_122 : decode cX12_conIs 122 = .ok (.aload_n 0, 1) := by decide +kernel
theorem dX12_conIs_123 : decode cX12_conIs 123 = .ok (.getfield 66, 3) := by decide +kernel
theorem dX12_conIs_126 : decode cX12_conIs 126 = .ok (.iload 4, 2) := by decide +kernel
theorem dX12_conIs_128 : decode cX12_conIs 128 = .ok (.iload_n 1, 1) := by decide +kernel
theorem dX12_conIs_129 : decode cX12_conIs 129 = .ok (.iastore, 1) := by decide +kernel
theorem dX12_conIs_130 : decode cX12_conIs 130 = .ok (.aload_n 0, 1) := by decide +kernel
theorem dX12_conIs_131 : decode cX12_conIs 131 = .ok (.getfield 69, 3) := by decide +kernel
theorem dX12_conIs_134 : decode cX12_conIs 134 = .ok (.iload 4, 2) := by decide +kernel
theorem dX12_conIs_136 : decode cX12_conIs 136 = .ok (.iconst 0, 1) := by decide +kernel
theorem dX12_conIs_137 : decode cX12_conIs 137 = .ok (.iastore, 1) := by decide +kernel
theorem dX12_conIs_138 : decode cX12_conIs 138 = .ok (.aload_n 0, 1) := by decide +kernel
theorem dX12_conIs_139 : decode cX12_conIs 139 = .ok (.getfield 75, 3) := by decide +kernel
theorem dX12_conIs_142 : decode cX12_conIs 142 = .ok (.iload 4, 2) := by decide +kernel
theorem dX12_conIs_144 : decode cX12_conIs 144 = .ok (.iload 5, 2) := by decide +kernel
theorem dX12_conIs_146 : decode cX12_conIs 146 = .ok (.iastore, 1) := by decide +kernel
theorem dX12_conIs_147 : decode cX12_conIs 147 = .ok (.aload_n 0, 1) := by decide +kernel
theorem dX12_conIs_148 : decode cX12_conIs 148 = .ok (.getfield 78, 3) := by decide +kernel
theorem dX12_conIs_151 : decode cX12_conIs 151 = .ok (.iload 4, 2) := by decide +kernel
theorem dX12_conIs_153 : decode cX12_conIs 153 = .ok (.iconst 1, 1) := by decide +kernel
theorem dX12_conIs_154 : decode cX12_conIs 154 = .ok (.iastore, 1) := by decide +kernel
theorem dX12_conIs_155 : decode cX12_conIs 155 = .ok (.aload_n 0, 1) := by decide +kernel
theorem dX12_conIs_156 : decode cX12_conIs 156 = .ok (.invokevirtual 331, 3) := by decide +kernel
theorem dX12_conIs_159 : decode cX12_conIs 159 = .ok (.aload_n 0, 1) := by decide +kernel
theorem dX12_conIs_160 : decode cX12_conIs 160 = .ok (.getfield 36, 3) := by decide +kernel
theorem dX12_conIs_163 : decode cX12_conIs 163 = .ok (.ifCond .ne 140, 3) := by decide +kernel
theorem dX12_conIs_166 : decode cX12_conIs 166 = .ok (.aload_n 0, 1) := by decide +kernel
theorem dX12_conIs_167 : decode cX12_conIs 167 = .ok (.invokevirtual 389, 3) := by decide +kernel
theorem dX12_conIs_170 : decode cX12_conIs 170 = .ok (.ifCond .eq 133, 3) := by decide +kernel
theorem dX12_conIs_173 : decode cX12_conIs 173 = .ok (.aload_n 0, 1) := by decide +kernel
theorem dX12_conIs_174 : decode cX12_conIs 174 = .ok (.getfield 69, 3) := by decide +kernel
theorem dX12_conIs_177 : decode cX12_conIs 177 = .ok (.iload 4, 2) := by decide +kernel
theorem dX12_conIs_179 : decode cX12_conIs 179 = .ok (.iaload, 1) := by decide +kernel
theorem dX12_conIs_180 : decode cX12_conIs 180 = .ok (.iconst 2, 1) := by decide +kernel
theorem dX12_conIs_181 : decode cX12_conIs 181 = .ok (.if_icmp .ne 13, 3) := by decide +kernel
theorem dX12_conIs_184 : decode cX12_conIs 184 = .ok (.aload_n 0, 1) := by decide +kernel
theorem dX12_conIs_185 : decode cX12_conIs 185 = .ok (.bipush 6, 2) := by decide +kernel
theorem dX12_conIs_187 : decode cX12_conIs 187 = .ok (.aload_n 0, 1) := by decide +kernel
theorem dX12_conIs_188 : decode cX12_conIs 188 = .ok (.getfield 23, 3) := by decide +kernel
theorem dX12_conIs_191 : decode cX12_conIs 191 = .ok (.invokevirtual 320, 3) := by decide +kernel
theorem dX12_conIs_194 : decode cX12_conIs 194 = .ok (.aload_n 0, 1) := by decide +kernel
theorem dX12_conIs_195 : decode cX12_conIs 195 = .ok (.iload_n 1, 1) := by decide +kernel
theorem dX12_conIs_196 : decode cX12_conIs 196 = .ok (.invokevirtual 393, 3) := by decide +kernel
theorem dX12_conIs_199 : decode cX12_conIs 199 = .ok (.istore 6, 2) := by decide +kernel
theorem dX12_conIs_201 : decode cX12_conIs 201 = .ok (.aload_n 0, 1) := by decide +kernel
theorem dX12_conIs_202 : decode cX12_conIs 202 = .ok (.getfield 36, 3) := by decide +kernel
theorem dX12_conIs_205 : decode cX12_conIs 205 = .ok (.ifCond .le 4, 3) := by decide +kernel
theorem dX12_conIs_208 : decode cX12_conIs 208 = .ok (.return_, 1) := by decide +kernel
theorem dX12_conIs_209 : decode cX12_conIs 209 = .ok (.aload_n 0, 1) := by decide +kernel
theorem dX12_conIs_210 : decode cX12_conIs 210 = .ok (.getfield 72, 3) := by decide +kernel
theorem dX12_conIs_213 : decode cX12_conIs 213 = .ok (.iconst 2, 1) := by decide +kernel
theorem dX12_conIs_214 : decode cX12_conIs 214 = .ok (.iload 4, 2) := by decide +kernel
theorem dX12_conIs_216 : decode cX12_conIs 216 = .ok (.imul, 1) := by decide +kernel
theorem dX12_conIs_217 : decode cX12_conIs 217 = .ok (.aload_n 0, 1) := by decide +kernel
theorem dX12_conIs_218 : decode cX12_conIs 218 = .ok (.getfield 69, 3) := by decide +kernel
theorem dX12_conIs_221 : decode cX12_conIs 221 = .ok (.iload 4, 2) := by decide +kernel
theorem dX12_conIs_223 : decode cX12_conIs 223 = .ok (.iaload, 1) := by decide +kernel
theorem dX12_conIs_224 : decode cX12_conIs 224 = .ok (.iadd, 1) := by decide +kernel
theorem dX12_conIs_225 : decode cX12_conIs 225 = .ok (.iload 6, 2) := by decide +kernel
theorem dX12_conIs_227 : decode cX12_conIs 227 = .ok (.iastore, 1) := by decide +kernel
theorem dX12_conIs_228 : decode cX12_conIs 228 = .ok (.aload_n 0, 1) := by decide +kernel
theorem dX12_conIs_229 : decode cX12_conIs 229 = .ok (.getfield 69, 3) := by decide +kernel
theorem dX12_conIs_232 : decode cX12_conIs 232 = .ok (.iload 4, 2) := by decide +kernel
theorem dX12_conIs_234 : decode cX12_conIs 234 = .ok (.dup2, 1) := by decide +kernel
theorem dX12_conIs_235 : decode cX12_conIs 235 = .ok (.iaload, 1) := by decide +kernel
theorem dX12_conIs_236 : decode cX12_conIs 236 = .ok (.iconst 1, 1) := by decide +kernel
theorem dX12_conIs_237 : decode cX12_conIs 237 = .ok (.iadd, 1) := by decide +kernel
theorem dX12_conIs_238 : decode cX12_conIs 238 = .ok (.iastore, 1) := by decide +kernel
theorem dX12_conIs_239 : decode cX12_conIs 239 = .ok (.aload_n 0, 1) := by decide +kernel
theorem dX12_conIs_240 : decode cX12_conIs 240 = .ok (.getfield 78, 3) := by decide +kernel
theorem dX12_conIs_243 : decode cX12_conIs 243 = .ok (.iload 4, 2) := by decide +kernel
theorem dX12_conIs_245 : decode cX12_conIs 245 = .ok (.dup2, 1) := by decide +kernel
theorem dX12_conIs_246 : decode cX12_conIs 246 = .ok (.iaload, 1) := by decide +kernel
theorem dX12_conIs_247 : decode cX12_conIs 247 = .ok (.aload_n 0, 1) := by decide +kernel
theorem dX12_conIs_248 : decode cX12_conIs 248 = .ok (.aload_n 0, 1) := by decide +kernel
theorem dX12_conIs_249 : decode cX12_conIs 249 = .ok (.getfield 124, 3) := by decide +kernel
theorem dX12_conIs_252 : decode cX12_conIs 252 = .ok (.iload 6, 2) := by decide +kernel
theorem dX12_conIs_254 : decode cX12_conIs 254 = .ok (.invokevirtual 396, 3) := by decide +kernel
theorem dX12_conIs_257 : decode cX12_conIs 257 = .ok (.imul, 1) := by decide +kernel
theorem dX12_conIs_258 : decode cX12_conIs 258 = .ok (.iastore, 1) := by decide +kernel
theorem dX12_conIs_259 : decode cX12_conIs 259 = .ok (.iload 5, 2) := by decide +kernel
theorem dX12_conIs_261 : decode cX12_conIs 261 = .ok (.aload_n 0, 1) := by decide +kernel
theorem dX12_conIs_262 : decode cX12_conIs 262 = .ok (.getfield 78, 3) := by decide +kernel
theorem dX12_conIs_265 : decode cX12_conIs 265 = .ok (.iload 4, 2) := by decide +kernel
theorem dX12_conIs_267 : decode cX12_conIs 267 = .ok (.iaload, 1) := by decide +kernel
theorem dX12_conIs_268 : decode cX12_conIs 268 = .ok (.iadd, 1) := by decide +kernel
theorem dX12_conIs_269 : decode cX12_conIs 269 = .ok (.sipush 2000, 3) := by decide +kernel
theorem dX12_conIs_272 : decode cX12_conIs 272 = .ok (.if_icmp .le 12, 3) := by decide +kernel
theorem dX12_conIs_275 : decode cX12_conIs 275 = .ok (.aload_n 0, 1) := by decide +kernel
theorem dX12_conIs_276 : decode cX12_conIs 276 = .ok (.iconst 4, 1) := by decide +kernel
theorem dX12_conIs_277 : decode cX12_conIs 277 = .ok (.aload_n 0, 1) := by decide +kernel
theorem dX12_conIs_278 : decode cX12_conIs 278 = .ok (.getfield 23, 3) := by decide +kernel
theorem dX12_conIs_281 : decode cX12_conIs 281 = .ok (.invokevirtual 320, 3) := by decide +kernel
theorem dX12_conIs_284 : decode cX12_conIs 284 = .ok (.aload_n 0, 1) := by decide +kernel
theorem dX12_conIs_285 : decode cX12_conIs 285 = .ok (.getfield 36, 3) := by decide +kernel
theorem dX12_conIs_288 : decode cX12_conIs 288 = .ok (.ifCond .le 4, 3) := by decide +kernel
theorem dX12_conIs_291 : decode cX12_conIs 291 = .ok (.return_, 1) := by decide +kernel
theorem dX12_conIs_292 : decode cX12_conIs 292 = .ok (.aload_n 0, 1) := by decide +kernel
theorem dX12_conIs_293 : decode cX12_conIs 293 = .ok (.invokevirtual 337, 3) := by decide +kernel
theorem dX12_conIs_296 : decode cX12_conIs 296 = .ok (.aload_n 0, 1) := by decide +kernel
theorem dX12_conIs_297 : decode cX12_conIs 297 = .ok (.invokevirtual 331, 3) := by decide +kernel
theorem dX12_conIs_300 : decode cX12_conIs 300 = .ok (.goto (-141), 3) := by decide +kernel
theorem dX12_conIs_303 : decode cX12_conIs 303 = .ok (.aload_n 0, 1) := by decide +kernel
theorem dX12_conIs_304 : decode cX12_conIs 304 = .ok (.getfield 36, 3) := by decide +kernel
theorem dX12_conIs_307 : decode cX12_conIs 307 = .ok (.ifCond .le 4, 3) := by decide +kernel
theorem dX12_conIs_310 : decode cX12_conIs 310 = .ok (.return_, 1) := by decide +kernel
theorem dX12_conIs_311 : decode cX12_conIs 311 = .ok (.aload_n 0, 1) := by decide +kernel
theorem dX12_conIs_312 : decode cX12_conIs 312 = .ok (.getfield 57, 3) := by decide +kernel
theorem dX12_conIs_315 : decode cX12_conIs 315 = .ok (.iconst 4, 1) := by decide +kernel
theorem dX12_conIs_316 : decode cX12_conIs 316 = .ok (.aload_n 0, 1) := by decide +kernel
theorem dX12_conIs_317 : decode cX12_conIs 317 = .ok (.getfield 124, 3) := by decide +kernel
theorem dX12_conIs_320 : decode cX12_conIs 320 = .ok (.imul, 1) := by decide +kernel
theorem dX12_conIs_321 : decode cX12_conIs 321 = .ok (.iload_n 1, 1) := by decide +kernel
theorem dX12_conIs_322 : decode cX12_conIs 322 = .ok (.iadd, 1) := by decide +kernel
theorem dX12_conIs_323 : decode cX12_conIs 323 = .ok (.dup2, 1) := by decide +kernel
theorem dX12_conIs_324 : decode cX12_conIs 324 = .ok (.iaload, 1) := by decide +kernel
theorem dX12_conIs_325 : decode cX12_conIs 325 = .ok (.aload_n 0, 1) := by decide +kernel
theorem dX12_conIs_326 : decode cX12_conIs 326 = .ok (.getfield 78, 3) := by decide +kernel
theorem dX12_conIs_329 : decode cX12_conIs 329 = .ok (.iload 4, 2) := by decide +kernel
theorem dX12_conIs_331 : decode cX12_conIs 331 = .ok (.iaload, 1) := by decide +kernel
theorem dX12_conIs_332 : decode cX12_conIs 332 = .ok (.iadd, 1) := by decide +kernel
theorem dX12_conIs_333 : decode cX12_conIs 333 = .ok (.iastore, 1) := by decide +kernel
theorem dX12_conIs_334 : decode cX12_conIs 334 = .ok (.aload_n 0, 1) := by decide +kernel
theorem dX12_conIs_335 : decode cX12_conIs 335 = .ok (.getfield 60, 3) := by decide +kernel
theorem dX12_conIs_338 : decode cX12_conIs 338 = .ok (.iconst 4, 1) := by decide +kernel
theorem dX12_conIs_339 : decode cX12_conIs 339 = .ok (.aload_n 0, 1) := by decide +kernel
theorem dX12_conIs_340 : decode cX12_conIs 340 = .ok (.getfield 124, 3) := by decide +kernel
theorem dX12_conIs_343 : decode cX12_conIs 343 = .ok (.imul, 1) := by decide +kernel
theorem dX12_conIs_344 : decode cX12_conIs 344 = .ok (.iload_n 1, 1) := by decide +kernel
theorem dX12_conIs_345 : decode cX12_conIs 345 = .ok (.iadd, 1) := by decide +kernel
theorem dX12_conIs_346 : decode cX12_conIs 346 = .ok (.dup2, 1) := by decide +kernel
theorem dX12_conIs_347 : decode cX12_conIs 347 = .ok (.iaload, 1) := by decide +kernel
theorem dX12_conIs_348 : decode cX12_conIs 348 = .ok (.iconst 1, 1) := by decide +kernel
theorem dX12_conIs_349 : decode cX12_conIs 349 = .ok (.iadd, 1) := by decide +kernel
theorem dX12_conIs_350 : decode cX12_conIs 350 = .ok (.iastore, 1) := by decide +kernel
theorem dX12_conIs_351 : decode cX12_conIs 351 = .ok (.aload_n 0, 1) := by decide +kernel
theorem dX12_conIs_352 : decode cX12_conIs 352 = .ok (.getfield 63, 3) := by decide +kernel
theorem dX12_conIs_355 : decode cX12_conIs 355 = .ok (.aload_n 0, 1) := by decide +kernel
theorem dX12_conIs_356 : decode cX12_conIs 356 = .ok (.getfield 124, 3) := by decide +kernel
theorem dX12_conIs_359 : decode cX12_conIs 359 = .ok (.dup2, 1) := by decide +kernel
theorem dX12_conIs_360 : decode cX12_conIs 360 = .ok (.iaload, 1) := by decide +kernel
theorem dX12_conIs_361 : decode cX12_conIs 361 = .ok (.iconst 1, 1) := by decide +kernel
theorem dX12_conIs_362 : decode cX12_conIs 362 = .ok (.iadd, 1) := by decide +kernel
theorem dX12_conIs_363 : decode cX12_conIs 363 = .ok (.iastore, 1) := by decide +kernel
theorem dX12_conIs_364 : decode cX12_conIs 364 = .ok (.return_, 1) := by decide +kernel
theorem dX12_matchIs_0 : decode cX12_matchIs 0 = .ok (.aload_n 0, 1) := by decide +kernel
theorem dX12_matchIs_1 : decode cX12_matchIs 1 = .ok (.aload_n 0, 1) := by decide +kernel
theorem dX12_matchIs_2 : decode cX12_matchIs 2 = .ok (.getfield 127, 3) := by decide +kernel
theorem dX12_matchIs_5 : decode cX12_matchIs 5 = .ok (.invokevirtual 378, 3) := by decide +kernel
theorem dX12_matchIs_8 : decode cX12_matchIs 8 = .ok (.ifCond .ne 4, 3) := by decide +kernel
theorem dX12_matchIs_11 : decode cX12_matchIs 11 = .ok (.return_, 1) := by decide +kernel
theorem dX12_matchIs_12 : decode cX12_matchIs 12 = .ok (.aload_n 0, 1) := by decide +kernel
theorem dX12_matchIs_13 : decode cX12_matchIs 13 = .ok (.iconst 1, 1) := by decide +kernel
theorem dX12_matchIs_14 : decode cX12_matchIs 14 = .ok (.putfield 127, 3) := by decide +kernel
theorem dX12_matchIs_17 : decode cX12_matchIs 17 = .ok (.iconst 1, 1) := by decide +kernel
