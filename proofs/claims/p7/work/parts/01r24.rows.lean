section
theorem dX12_worthOf_49 : decode cX12_worthOf 49 = .ok (.iload 4, 2) := by decide +kernel
theorem dX12_worthOf_51 : decode cX12_worthOf 51 = .ok (.iconst 1, 1) := by decide +kernel
theorem dX12_worthOf_52 : decode cX12_worthOf 52 = .ok (.isub, 1) := by decide +kernel
theorem dX12_worthOf_53 : decode cX12_worthOf 53 = .ok (.iand, 1) := by decide +kernel
theorem dX12_worthOf_54 : decode cX12_worthOf 54 = .ok (.istore 4, 2) := by decide +kernel
theorem dX12_worthOf_56 : decode cX12_worthOf 56 = .ok (.goto (-34), 3) := by decide +kernel
theorem dX12_worthOf_59 : decode cX12_worthOf 59 = .ok (.iload_n 3, 1) := by decide +kernel
theorem dX12_worthOf_60 : decode cX12_worthOf 60 = .ok (.ireturn, 1) := by decide +kernel
theorem dX12_worthOf_61 : decode cX12_worthOf 61 = .ok (.aload_n 0, 1) := by decide +kernel
theorem dX12_worthOf_62 : decode cX12_worthOf 62 = .ok (.dup, 1) := by decide +kernel
theorem dX12_worthOf_63 : decode cX12_worthOf 63 = .ok (.getfield 249, 3) := by decide +kernel
theorem dX12_worthOf_66 : decode cX12_worthOf 66 = .ok (.iconst 1, 1) := by decide +kernel
theorem dX12_worthOf_67 : decode cX12_worthOf 67 = .ok (.iadd, 1) := by decide +kernel
theorem dX12_worthOf_68 : decode cX12_worthOf 68 = .ok (.putfield 249, 3) := by decide +kernel
theorem dX12_worthOf_71 : decode cX12_worthOf 71 = .ok (.iconst 0, 1) := by decide +kernel
theorem dX12_worthOf_72 : decode cX12_worthOf 72 = .ok (.istore 4, 2) := by decide +kernel
theorem dX12_worthOf_74 : decode cX12_worthOf 74 = .ok (.iconst 0, 1) := by decide +kernel
theorem dX12_worthOf_75 : decode cX12_worthOf 75 = .ok (.istore 5, 2) := by decide +kernel
theorem dX12_worthOf_77 : decode cX12_worthOf 77 = .ok (.iload 5, 2) := by decide +kernel
theorem dX12_worthOf_79 : decode cX12_worthOf 79 = .ok (.aload_n 0, 1) := by decide +kernel
theorem dX12_worthOf_80 : decode cX12_worthOf 80 = .ok (.getfield 164, 3) := by decide +kernel
theorem dX12_worthOf_83 : decode cX12_worthOf 83 = .ok (.iload_n 2, 1) := by decide +kernel
theorem dX12_worthOf_84 : decode cX12_worthOf 84 = .ok (.iaload, 1) := by decide +kernel
theorem dX12_worthOf_85 : decode cX12_worthOf 85 = .ok (.if_icmp .ge 79, 3) := by decide +kernel
theorem dX12_worthOf_88 : decode cX12_worthOf 88 = .ok (.aload_n 0, 1) := by decide +kernel
theorem dX12_worthOf_89 : decode cX12_worthOf 89 = .ok (.getfield 203, 3) := by decide +kernel
theorem dX12_worthOf_92 : decode cX12_worthOf 92 = .ok (.sipush 2010, 3) := by decide +kernel
theorem dX12_worthOf_95 : decode cX12_worthOf 95 = .ok (.iload_n 2, 1) := by decide +kernel
theorem dX12_worthOf_96 : decode cX12_worthOf 96 = .ok (.imul, 1) := by decide +kernel
theorem dX12_worthOf_97 : decode cX12_worthOf 97 = .ok (.iload 5, 2) := by decide +kernel
theorem dX12_worthOf_99 : decode cX12_worthOf 99 = .ok (.iadd, 1) := by decide +kernel
theorem dX12_worthOf_100 : decode cX12_worthOf 100 = .ok (.iaload, 1) := by decide +kernel
theorem dX12_worthOf_101 : decode cX12_worthOf 101 = .ok (.iload_n 1, 1) := by decide +kernel
theorem dX12_worthOf_102 : decode cX12_worthOf 102 = .ok (.iand, 1) := by decide +kernel
theorem dX12_worthOf_103 : decode cX12_worthOf 103 = .ok (.istore 6, 2) := by decide +kernel
theorem dX12_worthOf_105 : decode cX12_worthOf 105 = .ok (.aload_n 0, 1) := by decide +kernel
theorem dX12_worthOf_106 : decode cX12_worthOf 106 = .ok (.getfield 246, 3) := by decide +kernel
theorem dX12_worthOf_109 : decode cX12_worthOf 109 = .ok (.iload 6, 2) := by decide +kernel
theorem dX12_worthOf_111 : decode cX12_worthOf 111 = .ok (.iaload, 1) := by decide +kernel
theorem dX12_worthOf_112 : decode cX12_worthOf 112 = .ok (.aload_n 0, 1) := by decide +kernel
theorem dX12_worthOf_113 : decode cX12_worthOf 113 = .ok (.getfield 249, 3) := by decide +kernel
theorem dX12_worthOf_116 : decode cX12_worthOf 116 = .ok (.if_icmp .ne 6, 3) := by decide +kernel
theorem dX12_worthOf_119 : decode cX12_worthOf 119 = .ok (.goto 39, 3) := by decide +kernel
theorem dX12_worthOf_122 : decode cX12_worthOf 122 = .ok (.aload_n 0, 1) := by decide +kernel
theorem dX12_worthOf_123 : decode cX12_worthOf 123 = .ok (.getfield 246, 3) := by decide +kernel
theorem dX12_worthOf_126 : decode cX12_worthOf 126 = .ok (.iload 6, 2) := by decide +kernel
theorem dX12_worthOf_128 : decode cX12_worthOf 128 = .ok (.aload_n 0, 1) := by decide +kernel
theorem dX12_worthOf_129 : decode cX12_worthOf 129 = .ok (.getfield 249, 3) := by decide +kernel
theorem dX12_worthOf_132 : decode cX12_worthOf 132 = .ok (.iastore, 1) := by decide +kernel
theorem dX12_worthOf_133 : decode cX12_worthOf 133 = .ok (.iinc 3 1, 3) := by decide +kernel
theorem dX12_worthOf_136 : decode cX12_worthOf 136 = .ok (.iload 6, 2) := by decide +kernel
theorem dX12_worthOf_138 : decode cX12_worthOf 138 = .ok (.invokestatic 544, 3) := by decide +kernel
theorem dX12_worthOf_141 : decode cX12_worthOf 141 = .ok (.iload 4, 2) := by decide +kernel
theorem dX12_worthOf_143 : decode cX12_worthOf 143 = .ok (.if_icmp .le 11, 3) := by decide +kernel
theorem dX12_worthOf_146 : decode cX12_worthOf 146 = .ok (.iload 6, 2) := by decide +kernel
theorem dX12_worthOf_148 : decode cX12_worthOf 148 = .ok (.invokestatic 544, 3) := by decide +kernel
theorem dX12_worthOf_151 : decode cX12_worthOf 151 = .ok (.goto 5, 3) := by decide +kernel
theorem dX12_worthOf_154 : decode cX12_worthOf 154 = .ok (.iload 4, 2) := by decide +kernel
theorem dX12_worthOf_156 : decode cX12_worthOf 156 = .ok (.istore 4, 2) := by decide +kernel
theorem dX12_worthOf_158 : decode cX12_worthOf 158 = .ok (.iinc 5 1, 3) := by decide +kernel
theorem dX12_worthOf_161 : decode cX12_worthOf 161 = .ok (.goto (-84), 3) := by decide +kernel
theorem dX12_worthOf_164 : decode cX12_worthOf 164 = .ok (.aload_n 0, 1) := by decide +kernel
theorem dX12_worthOf_165 : decode cX12_worthOf 165 = .ok (.getfield 243, 3) := by decide +kernel
theorem dX12_worthOf_168 : decode cX12_worthOf 168 = .ok (.iconst 2, 1) := by decide +kernel
theorem dX12_worthOf_169 : decode cX12_worthOf 169 = .ok (.if_icmp .ne 8, 3) := by decide +kernel
theorem dX12_worthOf_172 : decode cX12_worthOf 172 = .ok (.iload_n 3, 1) := by decide +kernel
theorem dX12_worthOf_173 : decode cX12_worthOf 173 = .ok (.ineg, 1) := by decide +kernel
theorem dX12_worthOf_174 : decode cX12_worthOf 174 = .ok (.goto 6, 3) := by decide +kernel
theorem dX12_worthOf_177 : decode cX12_worthOf 177 = .ok (.iload 4, 2) := by decide +kernel
theorem dX12_worthOf_179 : decode cX12_worthOf 179 = .ok (.ineg, 1) := by decide +kernel
theorem dX12_worthOf_180 : decode cX12_worthOf 180 = .ok (.ireturn, 1) := by decide +kernel
theorem dX12_asksFor_0 : decode cX12_asksFor 0 = .ok (.aload_n 0, 1) := by decide +kernel
theorem dX12_asksFor_1 : decode cX12_asksFor 1 = .ok (.getfield 240, 3) := by decide +kernel
theorem dX12_asksFor_4 : decode cX12_asksFor 4 = .ok (.iload_n 1, 1) := by decide +kernel
theorem dX12_asksFor_5 : decode cX12_asksFor 5 = .ok (.iaload, 1) := by decide +kernel
theorem dX12_asksFor_6 : decode cX12_asksFor 6 = .ok (.iconst 3, 1) := by decide +kernel
theorem dX12_asksFor_7 : decode cX12_asksFor 7 = .ok (.ishr, 1) := by decide +kernel
theorem dX12_asksFor_8 : decode cX12_asksFor 8 = .ok (.aload_n 0, 1) := by decide +kernel
theorem dX12_asksFor_9 : decode cX12_asksFor 9 = .ok (.getfield 236, 3) := by decide +kernel
theorem dX12_asksFor_12 : decode cX12_asksFor 12 = .ok (.if_icmp .ne 13, 3) := by decide +kernel
theorem dX12_asksFor_15 : decode cX12_asksFor 15 = .ok (.aload_n 0, 1) := by decide +kernel
theorem dX12_asksFor_16 : decode cX12_asksFor 16 = .ok (.getfield 240, 3) := by decide +kernel
theorem dX12_asksFor_19 : decode cX12_asksFor 19 = .ok (.iload_n 1, 1) := by decide +kernel
theorem dX12_asksFor_20 : decode cX12_asksFor 20 = .ok (.iaload, 1) := by decide +kernel
theorem dX12_asksFor_21 : decode cX12_asksFor 21 = .ok (.bipush 7, 2) := by decide +kernel
theorem dX12_asksFor_23 : decode cX12_asksFor 23 = .ok (.iand, 1) := by decide +kernel
theorem dX12_asksFor_24 : decode cX12_asksFor 24 = .ok (.ireturn, 1) := by decide +kernel
theorem dX12_asksFor_25 : decode cX12_asksFor 25 = .ok (.iload_n 1, 1) := by decide +kernel
theorem dX12_asksFor_26 : decode cX12_asksFor 26 = .ok (.invokestatic 547, 3) := by decide +kernel
theorem dX12_asksFor_29 : decode cX12_asksFor 29 = .ok (.istore_n 2, 1) := by decide +kernel
theorem dX12_asksFor_30 : decode cX12_asksFor 30 = .ok (.iload_n 2, 1) := by decide +kernel
theorem dX12_asksFor_31 : decode cX12_asksFor 31 = .ok (.invokestatic 495, 3) := by decide +kernel
theorem dX12_asksFor_34 : decode cX12_asksFor 34 = .ok (.istore_n 3, 1) := by decide +kernel
theorem dX12_asksFor_35 : decode cX12_asksFor 35 = .ok (.iconst 4, 1) := by decide +kernel
theorem dX12_asksFor_36 : decode cX12_asksFor 36 = .ok (.istore 4, 2) := by decide +kernel
theorem dX12_asksFor_38 : decode cX12_asksFor 38 = .ok (.iconst 0, 1) := by decide +kernel
theorem dX12_asksFor_39 : decode cX12_asksFor 39 = .ok (.istore 5, 2) := by decide +kernel
theorem dX12_asksFor_41 : decode cX12_asksFor 41 = .ok (.iconst 0, 1) := by decide +kernel
theorem dX12_asksFor_42 : decode cX12_asksFor 42 = .ok (.istore 6, 2) := by decide +kernel
theorem dX12_asksFor_44 : decode cX12_asksFor 44 = .ok (.iload 6, 2) := by decide +kernel
theorem dX12_asksFor_46 : decode cX12_asksFor 46 = .ok (.aload_n 0, 1) := by decide +kernel
theorem dX12_asksFor_47 : decode cX12_asksFor 47 = .ok (.invokevirtual 459, 3) := by decide +kernel
theorem dX12_asksFor_50 : decode cX12_asksFor 50 = .ok (.if_icmp .ge 77, 3) := by decide +kernel
theorem dX12_asksFor_53 : decode cX12_asksFor 53 = .ok (.iload_n 3, 1) := by decide +kernel
theorem dX12_asksFor_54 : decode cX12_asksFor 54 = .ok (.iconst (-1), 1) := by decide +kernel
theorem dX12_asksFor_55 : decode cX12_asksFor 55 = .ok (.if_icmp .eq 72, 3) := by decide +kernel
theorem dX12_asksFor_58 : decode cX12_asksFor 58 = .ok (.iload_n 1, 1) := by decide +kernel
theorem dX12_asksFor_59 : decode cX12_asksFor 59 = .ok (.invokestatic 550, 3) := by decide +kernel
theorem dX12_asksFor_62 : decode cX12_asksFor 62 = .ok (.iload 6, 2) := by decide +kernel
theorem dX12_asksFor_64 : decode cX12_asksFor 64 = .ok (.ishr, 1) := by decide +kernel
theorem dX12_asksFor_65 : decode cX12_asksFor 65 = .ok (.iconst 1, 1) := by decide +kernel
theorem dX12_asksFor_66 : decode cX12_asksFor 66 = .ok (.iand, 1) := by decide +kernel
theorem dX12_asksFor_67 : decode cX12_asksFor 67 = .ok (.ifCond .eq 54, 3) := by decide +kernel
theorem dX12_asksFor_70 : decode cX12_asksFor 70 = .ok (.aload_n 0, 1) := by decide +kernel
theorem dX12_asksFor_71 : decode cX12_asksFor 71 = .ok (.getfield 206, 3) := by decide +kernel
theorem dX12_asksFor_74 : decode cX12_asksFor 74 = .ok (.iload 6, 2) := by decide +kernel
theorem dX12_asksFor_76 : decode cX12_asksFor 76 = .ok (.iaload, 1) := by decide +kernel
theorem dX12_asksFor_77 : decode cX12_asksFor 77 = .ok (.iload_n 3, 1) := by decide +kernel
theorem dX12_asksFor_78 : decode cX12_asksFor 78 = .ok (.ishr, 1) := by decide +kernel
theorem dX12_asksFor_79 : decode cX12_asksFor 79 = .ok (.iconst 1, 1) := by decide +kernel
theorem dX12_asksFor_80 : decode cX12_asksFor 80 = .ok (.iand, 1) := by decide +kernel
theorem dX12_asksFor_81 : decode cX12_asksFor 81 = .ok (.iconst 1, 1) := by decide +kernel
theorem dX12_asksFor_82 : decode cX12_asksFor 82 = .ok (.if_icmp .ne 6, 3) := by decide +kernel
theorem dX12_asksFor_85 : decode cX12_asksFor 85 = .ok (.goto 36, 3) := by decide +kernel
theorem dX12_asksFor_88 : decode cX12_asksFor 88 = .ok (.aload_n 0, 1) := by decide +kernel
theorem dX12_asksFor_89 : decode cX12_asksFor 89 = .ok (.iload_n 2, 1) := by decide +kernel
theorem dX12_asksFor_90 : decode cX12_asksFor 90 = .ok (.iload 6, 2) := by decide +kernel
theorem dX12_asksFor_92 : decode cX12_asksFor 92 = .ok (.invokevirtual 553, 3) := by decide +kernel
theorem dX12_asksFor_95 : decode cX12_asksFor 95 = .ok (.istore 7, 2) := by decide +kernel
theorem dX12_asksFor_97 : decode cX12_asksFor 97 = .ok (.iload 4, 2) := by decide +kernel
theorem dX12_asksFor_99 : decode cX12_asksFor 99 = .ok (.iconst 4, 1) := by decide +kernel
theorem dX12_asksFor_100 : decode cX12_asksFor 100 = .ok (.if_icmp .eq 13, 3) := by decide +kernel
theorem dX12_asksFor_103 : decode cX12_asksFor 103 = .ok (.iload 7, 2) := by decide +kernel
theorem dX12_asksFor_105 : decode cX12_asksFor 105 = .ok (.iload 5, 2) := by decide +kernel
theorem dX12_asksFor_107 : decode cX12_asksFor 107 = .ok (.if_icmp .gt 6, 3) := by decide +kernel
theorem dX12_asksFor_110 : decode cX12_asksFor 110 = .ok (.goto 11, 3) := by decide +kernel
theorem dX12_asksFor_113 : decode cX12_asksFor 113 = .ok (.iload 6, 2) := by decide +kernel
theorem dX12_asksFor_115 : decode cX12_asksFor 115 = .ok (.istore 4, 2) := by decide +kernel
theorem dX12_asksFor_117 : decode cX12_asksFor 117 = .ok (.iload 7, 2) := by decide +kernel
theorem dX12_asksFor_119 : decode cX12_asksFor 119 = .ok (.istore 5, 2) := by decide +kernel
theorem dX12_asksFor_121 : decode cX12_asksFor 121 = .ok (.iinc 6 1, 3) := by decide +kernel
theorem dX12_asksFor_124 : decode cX12_asksFor 124 = .ok (.goto (-80), 3) := by decide +kernel
theorem dX12_asksFor_127 : decode cX12_asksFor 127 = .ok (.aload_n 0, 1) := by decide +kernel
theorem dX12_asksFor_128 : decode cX12_asksFor 128 = .ok (.getfield 240, 3) := by decide +kernel
theorem dX12_asksFor_131 : decode cX12_asksFor 131 = .ok (.iload_n 1, 1) := by decide +kernel
theorem dX12_asksFor_132 : decode cX12_asksFor 132 = .ok (.aload_n 0, 1) := by decide +kernel
theorem dX12_asksFor_133 : decode cX12_asksFor 133 = .ok (.getfield 236, 3) := by decide +kernel
theorem dX12_asksFor_136 : decode cX12_asksFor 136 = .ok (.iconst 3, 1) := by decide +kernel
theorem dX12_asksFor_137 : decode cX12_asksFor 137 = .ok (.ishl, 1) := by decide +kernel
theorem dX12_asksFor_138 : decode cX12_asksFor 138 = .ok (.iload 4, 2) := by decide +kernel
theorem dX12_asksFor_140 : decode cX12_asksFor 140 = .ok (.ior, 1) := by decide +kernel
theorem dX12_asksFor_141 : decode cX12_asksFor 141 = .ok (.iastore, 1) := by decide +kernel
theorem dX12_asksFor_142 : decode cX12_asksFor 142 = .ok (.iload 4, 2) := by decide +kernel
theorem dX12_asksFor_144 : decode cX12_asksFor 144 = .ok (.ireturn, 1) := by decide +kernel
theorem dX12_isDoor_0 : decode cX12_isDoor 0 = .ok (.iload_n 1, 1) := by decide +kernel
theorem dX12_isDoor_1 : decode cX12_isDoor 1 = .ok (.invokestatic 547, 3) := by decide +kernel
theorem dX12_isDoor_4 : decode cX12_isDoor 4 = .ok (.ifCond .eq 32, 3) := by decide +kernel
theorem dX12_isDoor_7 : decode cX12_isDoor 7 = .ok (.aload_n 0, 1) := by decide +kernel
theorem dX12_isDoor_8 : decode cX12_isDoor 8 = .ok (.iload_n 1, 1) := by decide +kernel
theorem dX12_isDoor_9 : decode cX12_isDoor 9 = .ok (.invokevirtual 556, 3) := by decide +kernel
theorem dX12_isDoor_12 : decode cX12_isDoor 12 = .ok (.iconst 4, 1) := by decide +kernel
theorem dX12_isDoor_13 : decode cX12_isDoor 13 = .ok (.if_icmp .ne 23, 3) := by decide +kernel
theorem dX12_isDoor_16 : decode cX12_isDoor 16 = .ok (.aload_n 0, 1) := by decide +kernel
theorem dX12_isDoor_17 : decode cX12_isDoor 17 = .ok (.getfield 209, 3) := by decide +kernel
theorem dX12_isDoor_20 : decode cX12_isDoor 20 = .ok (.iload_n 1, 1) := by decide +kernel
theorem dX12_isDoor_21 : decode cX12_isDoor 21 = .ok (.invokestatic 547, 3) := by decide +kernel
theorem dX12_isDoor_24 : decode cX12_isDoor 24 = .ok (.invokestatic 495, 3) := by decide +kernel
theorem dX12_isDoor_27 : decode cX12_isDoor 27 = .ok (.iaload, 1) := by decide +kernel
theorem dX12_isDoor_28 : decode cX12_isDoor 28 = .ok (.iconst (-1), 1) := by decide +kernel
theorem dX12_isDoor_29 : decode cX12_isDoor 29 = .ok (.if_icmp .eq 7, 3) := by decide +kernel
theorem dX12_isDoor_32 : decode cX12_isDoor 32 = .ok (.iconst 1, 1) := by decide +kernel
theorem dX12_isDoor_33 : decode cX12_isDoor 33 = .ok (.goto 4, 3) := by decide +kernel
theorem dX12_isDoor_36 : decode cX12_isDoor 36 = .ok (.iconst 0, 1) := by decide +kernel
theorem dX12_isDoor_37 : decode cX12_isDoor 37 = .ok (.ireturn, 1) := by decide +kernel
theorem dX12_throughDoor_0 : decode cX12_throughDoor 0 = .ok (.iload_n 0, 1) := by decide +kernel
theorem dX12_throughDoor_1 : decode cX12_throughDoor 1 = .ok (.invokestatic 547, 3) := by decide +kernel
theorem dX12_throughDoor_4 : decode cX12_throughDoor 4 = .ok (.iload_n 0, 1) := by decide +kernel
theorem dX12_throughDoor_5 : decode cX12_throughDoor 5 = .ok (.invokestatic 547, 3) := by decide +kernel
theorem dX12_throughDoor_8 : decode cX12_throughDoor 8 = .ok (.iconst 1, 1) := by decide +kernel
theorem dX12_throughDoor_9 : decode cX12_throughDoor 9 = .ok (.isub, 1) := by decide +kernel
theorem dX12_throughDoor_10 : decode cX12_throughDoor 10 = .ok (.iand, 1) := by decide +kernel
theorem dX12_throughDoor_11 : decode cX12_throughDoor 11 = .ok (.iload_n 0, 1) := by decide +kernel
theorem dX12_throughDoor_12 : decode cX12_throughDoor 12 = .ok (.invokestatic 550, 3) := by decide +kernel
theorem dX12_throughDoor_15 : decode cX12_throughDoor 15 = .ok (.invokestatic 559, 3) := by decide +kernel
theorem dX12_throughDoor_18 : decode cX12_throughDoor 18 = .ok (.ireturn, 1) := by decide +kernel
theorem dX12_branchOf_0 : decode cX12_branchOf 0 = .ok (.iload_n 1, 1) := by decide +kernel
theorem dX12_branchOf_1 : decode cX12_branchOf 1 = .ok (.invokestatic 547, 3) := by decide +kernel
theorem dX12_branchOf_4 : decode cX12_branchOf 4 = .ok (.iload_n 3, 1) := by decide +kernel
theorem dX12_branchOf_5 : decode cX12_branchOf 5 = .ok (.iand, 1) := by decide +kernel
theorem dX12_branchOf_6 : decode cX12_branchOf 6 = .ok (.iload_n 1, 1) := by decide +kernel
theorem dX12_branchOf_7 : decode cX12_branchOf 7 = .ok (.invokestatic 550, 3) := by decide +kernel
theorem dX12_branchOf_10 : decode cX12_branchOf 10 = .ok (.iconst 1, 1) := by decide +kernel
theorem dX12_branchOf_11 : decode cX12_branchOf 11 = .ok (.iload_n 2, 1) := by decide +kernel
theorem dX12_branchOf_12 : decode cX12_branchOf 12 = .ok (.ishl, 1) := by decide +kernel
theorem dX12_branchOf_13 : decode cX12_branchOf 13 = .ok (.iconst (-1), 1) := by decide +kernel
theorem dX12_branchOf_14 : decode cX12_branchOf 14 = .ok (.ixor, 1) := by decide +kernel
theorem dX12_branchOf_15 : decode cX12_branchOf 15 = .ok (.iand, 1) := by decide +kernel
theorem dX12_branchOf_16 : decode cX12_branchOf 16 = .ok (.invokestatic 559, 3) := by decide +kernel
theorem dX12_branchOf_19 : decode cX12_branchOf 19 = .ok (.ireturn, 1) := by decide +kernel
theorem dX12_root_0 : decode cX12_root 0 = .ok (.iconst 1, 1) := by decide +kernel
theorem dX12_root_1 : decode cX12_root 1 = .ok (.aload_n 0, 1) := by decide +kernel
theorem dX12_root_2 : decode cX12_root 2 = .ok (.getfield 200, 3) := by decide +kernel
theorem dX12_root_5 : decode cX12_root 5 = .ok (.ishl, 1) := by decide +kernel
theorem dX12_root_6 : decode cX12_root 6 = .ok (.iconst 1, 1) := by decide +kernel
theorem dX12_root_7 : decode cX12_root 7 = .ok (.isub, 1) := by decide +kernel
theorem dX12_root_8 : decode cX12_root 8 = .ok (.iconst 1, 1) := by decide +kernel
theorem dX12_root_9 : decode cX12_root 9 = .ok (.aload_n 0, 1) := by decide +kernel
theorem dX12_root_10 : decode cX12_root 10 = .ok (.invokevirtual 459, 3) := by decide +kernel
theorem dX12_root_13 : decode cX12_root 13 = .ok (.ishl, 1) := by decide +kernel
theorem dX12_root_14 : decode cX12_root 14 = .ok (.iconst 1, 1) := by decide +kernel
theorem dX12_root_15 : decode cX12_root 15 = .ok (.isub, 1) := by decide +kernel
theorem dX12_root_16 : decode cX12_root 16 = .ok (.invokestatic 559, 3) := by decide +kernel
theorem dX12_root_19 : decode cX12_root 19 = .ok (.ireturn, 1) := by decide +kernel
theorem dX12_plants_0 : decode cX12_plants 0 = .ok (.aload_n 0, 1) := by decide +kernel
theorem dX12_plants_1 : decode cX12_plants 1 = .ok (.iload_n 1, 1) := by decide +kernel
theorem dX12_plants_2 : decode cX12_plants 2 = .ok (.invokevirtual 501, 3) := by decide +kernel
theorem dX12_plants_5 : decode cX12_plants 5 = .ok (.aload_n 0, 1) := by decide +kernel
theorem dX12_plants_6 : decode cX12_plants 6 = .ok (.iload_n 2, 1) := by decide +kernel
theorem dX12_plants_7 : decode cX12_plants 7 = .ok (.putfield 243, 3) := by decide +kernel
theorem dX12_plants_10 : decode cX12_plants 10 = .ok (.return_, 1) := by decide +kernel
theorem dX12_testsFor_0 : decode cX12_testsFor 0 = .ok (.aload_n 0, 1) := by decide +kernel
theorem dX12_testsFor_1 : decode cX12_testsFor 1 = .ok (.iload_n 1, 1) := by decide +kernel
theorem dX12_testsFor_2 : decode cX12_testsFor 2 = .ok (.invokevirtual 478, 3) := by decide +kernel
theorem dX12_testsFor_5 : decode cX12_testsFor 5 = .ok (.aload_n 0, 1) := by decide +kernel
theorem dX12_testsFor_6 : decode cX12_testsFor 6 = .ok (.invokevirtual 562, 3) := by decide +kernel
theorem dX12_testsFor_9 : decode cX12_testsFor 9 = .ok (.istore_n 3, 1) := by decide +kernel
theorem dX12_testsFor_10 : decode cX12_testsFor 10 = .ok (.iconst 0, 1) := by decide +kernel
theorem dX12_testsFor_11 : decode cX12_testsFor 11 = .ok (.istore 4, 2) := by decide +kernel
theorem dX12_testsFor_13 : decode cX12_testsFor 13 = .ok (.iload_n 3, 1) := by decide +kernel
theorem dX12_testsFor_14 : decode cX12_testsFor 14 = .ok (.invokestatic 547, 3) := by decide +kernel
theorem dX12_testsFor_17 : decode cX12_testsFor 17 = .ok (.ifCond .eq 69, 3) := by decide +kernel
theorem dX12_testsFor_20 : decode cX12_testsFor 20 = .ok (.aload_n 0, 1) := by decide +kernel
theorem dX12_testsFor_21 : decode cX12_testsFor 21 = .ok (.iload_n 3, 1) := by decide +kernel
theorem dX12_testsFor_22 : decode cX12_testsFor 22 = .ok (.invokevirtual 556, 3) := by decide +kernel
theorem dX12_testsFor_25 : decode cX12_testsFor 25 = .ok (.istore 5, 2) := by decide +kernel
theorem dX12_testsFor_27 : decode cX12_testsFor 27 = .ok (.iload 5, 2) := by decide +kernel
theorem dX12_testsFor_29 : decode cX12_testsFor 29 = .ok (.iconst 4, 1) := by decide +kernel
theorem dX12_testsFor_30 : decode cX12_testsFor 30 = .ok (.if_icmp .ne 29, 3) := by decide +kernel
theorem dX12_testsFor_33 : decode cX12_testsFor 33 = .ok (.iload_n 2, 1) := by decide +kernel
theorem dX12_testsFor_34 : decode cX12_testsFor 34 = .ok (.iload_n 3, 1) := by decide +kernel
theorem dX12_testsFor_35 : decode cX12_testsFor 35 = .ok (.invokestatic 547, 3) := by decide +kernel
theorem dX12_testsFor_38 : decode cX12_testsFor 38 = .ok (.invokestatic 495, 3) := by decide +kernel
theorem dX12_testsFor_41 : decode cX12_testsFor 41 = .ok (.ishr, 1) := by decide +kernel
theorem dX12_testsFor_42 : decode cX12_testsFor 42 = .ok (.iconst 1, 1) := by decide +kernel
theorem dX12_testsFor_43 : decode cX12_testsFor 43 = .ok (.iand, 1) := by decide +kernel
theorem dX12_testsFor_44 : decode cX12_testsFor 44 = .ok (.iconst 1, 1) := by decide +kernel
theorem dX12_testsFor_45 : decode cX12_testsFor 45 = .ok (.if_icmp .ne 6, 3) := by decide +kernel
theorem dX12_testsFor_48 : decode cX12_testsFor 48 = .ok (.iload 4, 2) := by decide +kernel
theorem dX12_testsFor_50 : decode cX12_testsFor 50 = .ok (.ireturn, 1) := by decide +kernel
theorem dX12_testsFor_51 : decode cX12_testsFor 51 = .ok (.iload_n 3, 1) := by decide +kernel
theorem dX12_testsFor_52 : decode cX12_testsFor 52 = .ok (.invokestatic 565, 3) := by decide +kernel
theorem dX12_testsFor_55 : decode cX12_testsFor 55 = .ok (.istore_n 3, 1) := by decide +kernel
theorem dX12_testsFor_56 : decode cX12_testsFor 56 = .ok (.goto (-43), 3) := by decide +kernel
theorem dX12_testsFor_59 : decode cX12_testsFor 59 = .ok (.iinc 4 1, 3) := by decide +kernel
theorem dX12_testsFor_62 : decode cX12_testsFor 62 = .ok (.aload_n 0, 1) := by decide +kernel
theorem dX12_testsFor_63 : decode cX12_testsFor 63 = .ok (.iload_n 3, 1) := by decide +kernel
theorem dX12_testsFor_64 : decode cX12_testsFor 64 = .ok (.iload 5, 2) := by decide +kernel
theorem dX12_testsFor_66 : decode cX12_testsFor 66 = .ok (.aload_n 0, 1) := by decide +kernel
theorem dX12_testsFor_67 : decode cX12_testsFor 67 = .ok (.iload 5, 2) := by decide +kernel
theorem dX12_testsFor_69 : decode cX12_testsFor 69 = .ok (.aload_n 0, 1) := by decide +kernel
theorem dX12_testsFor_70 : decode cX12_testsFor 70 = .ok (.getfield 215, 3) := by decide +kernel
theorem dX12_testsFor_73 : decode cX12_testsFor 73 = .ok (.iload 5, 2) := by decide +kernel
theorem dX12_testsFor_75 : decode cX12_testsFor 75 = .ok (.iaload, 1) := by decide +kernel
theorem dX12_testsFor_76 : decode cX12_testsFor 76 = .ok (.invokevirtual 481, 3) := by decide +kernel
theorem dX12_testsFor_79 : decode cX12_testsFor 79 = .ok (.invokevirtual 568, 3) := by decide +kernel
theorem dX12_testsFor_82 : decode cX12_testsFor 82 = .ok (.istore_n 3, 1) := by decide +kernel
theorem dX12_testsFor_83 : decode cX12_testsFor 83 = .ok (.goto (-70), 3) := by decide +kernel
theorem dX12_testsFor_86 : decode cX12_testsFor 86 = .ok (.iload 4, 2) := by decide +kernel
theorem dX12_testsFor_88 : decode cX12_testsFor 88 = .ok (.ireturn, 1) := by decide +kernel
theorem dX12_allTests_0 : decode cX12_allTests 0 = .ok (.aload_n 0, 1) := by decide +kernel
theorem dX12_allTests_1 : decode cX12_allTests 1 = .ok (.aload_n 0, 1) := by decide +kernel
theorem dX12_allTests_2 : decode cX12_allTests 2 = .ok (.getfield 179, 3) := by decide +kernel
theorem dX12_allTests_5 : decode cX12_allTests 5 = .ok (.iload_n 1, 1) := by decide +kernel
theorem dX12_allTests_6 : decode cX12_allTests 6 = .ok (.iaload, 1) := by decide +kernel
theorem dX12_allTests_7 : decode cX12_allTests 7 = .ok (.invokevirtual 492, 3) := by decide +kernel
theorem dX12_allTests_10 : decode cX12_allTests 10 = .ok (.istore_n 2, 1) := by decide +kernel
theorem dX12_allTests_11 : decode cX12_allTests 11 = .ok (.iconst 0, 1) := by decide +kernel
theorem dX12_allTests_12 : decode cX12_allTests 12 = .ok (.istore_n 3, 1) := by decide +kernel
theorem dX12_allTests_13 : decode cX12_allTests 13 = .ok (.iconst 0, 1) := by decide +kernel
theorem dX12_allTests_14 : decode cX12_allTests 14 = .ok (.istore 4, 2) := by decide +kernel
theorem dX12_allTests_16 : decode cX12_allTests 16 = .ok (.iload 4, 2) := by decide +kernel
theorem dX12_allTests_18 : decode cX12_allTests 18 = .ok (.aload_n 0, 1) := by decide +kernel
theorem dX12_allTests_19 : decode cX12_allTests 19 = .ok (.getfield 170, 3) := by decide +kernel
theorem dX12_allTests_22 : decode cX12_allTests 22 = .ok (.if_icmp .ge 19, 3) := by decide +kernel
theorem dX12_allTests_25 : decode cX12_allTests 25 = .ok (.iload_n 3, 1) := by decide +kernel
theorem dX12_allTests_26 : decode cX12_allTests 26 = .ok (.aload_n 0, 1) := by decide +kernel
theorem dX12_allTests_27 : decode cX12_allTests 27 = .ok (.iload 4, 2) := by decide +kernel
theorem dX12_allTests_29 : decode cX12_allTests 29 = .ok (.iload_n 2, 1) := by decide +kernel
theorem dX12_allTests_30 : decode cX12_allTests 30 = .ok (.invokevirtual 571, 3) := by decide +kernel
theorem dX12_allTests_33 : decode cX12_allTests 33 = .ok (.iadd, 1) := by decide +kernel
theorem dX12_allTests_34 : decode cX12_allTests 34 = .ok (.istore_n 3, 1) := by decide +kernel
theorem dX12_allTests_35 : decode cX12_allTests 35 = .ok (.iinc 4 1, 3) := by decide +kernel
theorem dX12_allTests_38 : decode cX12_allTests 38 = .ok (.goto (-22), 3) := by decide +kernel
theorem dX12_allTests_41 : decode cX12_allTests 41 = .ok (.iload_n 3, 1) := by decide +kernel
theorem dX12_allTests_42 : decode cX12_allTests 42 = .ok (.ireturn, 1) := by decide +kernel
theorem dX12_reaches_0 : decode cX12_reaches 0 = .ok (.aload_n 0, 1) := by decide +kernel
theorem dX12_reaches_1 : decode cX12_reaches 1 = .ok (.getfield 252, 3) := by decide +kernel
theorem dX12_reaches_4 : decode cX12_reaches 4 = .ok (.iload_n 1, 1) := by decide +kernel
theorem dX12_reaches_5 : decode cX12_reaches 5 = .ok (.iaload, 1) := by decide +kernel
theorem dX12_reaches_6 : decode cX12_reaches 6 = .ok (.aload_n 0, 1) := by decide +kernel
theorem dX12_reaches_7 : decode cX12_reaches 7 = .ok (.getfield 236, 3) := by decide +kernel
theorem dX12_reaches_10 : decode cX12_reaches 10 = .ok (.if_icmp .ne 4, 3) := by decide +kernel
theorem dX12_reaches_13 : decode cX12_reaches 13 = .ok (.return_, 1) := by decide +kernel
theorem dX12_reaches_14 : decode cX12_reaches 14 = .ok (.aload_n 0, 1) := by decide +kernel
theorem dX12_reaches_15 : decode cX12_reaches 15 = .ok (.getfield 252, 3) := by decide +kernel
theorem dX12_reaches_18 : decode cX12_reaches 18 = .ok (.iload_n 1, 1) := by decide +kernel
theorem dX12_reaches_19 : decode cX12_reaches 19 = .ok (.aload_n 0, 1) := by decide +kernel
theorem dX12_reaches_20 : decode cX12_reaches 20 = .ok (.getfield 236, 3) := by decide +kernel
theorem dX12_reaches_23 : decode cX12_reaches 23 = .ok (.iastore, 1) := by decide +kernel
theorem dX12_reaches_24 : decode cX12_reaches 24 = .ok (.aload_n 0, 1) := by decide +kernel
theorem dX12_reaches_25 : decode cX12_reaches 25 = .ok (.getfield 255, 3) := by decide +kernel
theorem dX12_reaches_28 : decode cX12_reaches 28 = .ok (.aload_n 0, 1) := by decide +kernel
theorem dX12_reaches_29 : decode cX12_reaches 29 = .ok (.getfield 258, 3) := by decide +kernel
theorem dX12_reaches_32 : decode cX12_reaches 32 = .ok (.iload_n 1, 1) := by decide +kernel
theorem dX12_reaches_33 : decode cX12_reaches 33 = .ok (.iastore, 1) := by decide +kernel
theorem dX12_reaches_34 : decode cX12_reaches 34 = .ok (.aload_n 0, 1) := by decide +kernel
theorem dX12_reaches_35 : decode cX12_reaches 35 = .ok (.dup, 1) := by decide +kernel
theorem dX12_reaches_36 : decode cX12_reaches 36 = .ok (.getfield 258, 3) := by decide +kernel
theorem dX12_reaches_39 : decode cX12_reaches 39 = .ok (.iconst 1, 1) := by decide +kernel
theorem dX12_reaches_40 : decode cX12_reaches 40 = .ok (.iadd, 1) := by decide +kernel
theorem dX12_reaches_41 : decode cX12_reaches 41 = .ok (.putfield 258, 3) := by decide +kernel
theorem dX12_reaches_44 : decode cX12_reaches 44 = .ok (.return_, 1) := by decide +kernel
theorem dX12_grows_0 : decode cX12_grows 0 = .ok (.aload_n 0, 1) := by decide +kernel
theorem dX12_grows_1 : decode cX12_grows 1 = .ok (.iconst 0, 1) := by decide +kernel
theorem dX12_grows_2 : decode cX12_grows 2 = .ok (.putfield 258, 3) := by decide +kernel
theorem dX12_grows_5 : decode cX12_grows 5 = .ok (.aload_n 0, 1) := by decide +kernel
theorem dX12_grows_6 : decode cX12_grows 6 = .ok (.aload_n 0, 1) := by decide +kernel
theorem dX12_grows_7 : decode cX12_grows 7 = .ok (.invokevirtual 562, 3) := by decide +kernel
theorem dX12_grows_10 : decode cX12_grows 10 = .ok (.invokevirtual 574, 3) := by decide +kernel
theorem dX12_grows_13 : decode cX12_grows 13 = .ok (.iconst 0, 1) := by decide +kernel
theorem dX12_grows_14 : decode cX12_grows 14 = .ok (.istore_n 1, 1) := by decide +kernel
theorem dX12_grows_15 : decode cX12_grows 15 = .ok (.iload_n 1, 1) := by decide +kernel
theorem dX12_grows_16 : decode cX12_grows 16 = .ok (.aload_n 0, 1) := by decide +kernel
theorem dX12_grows_17 : decode cX12_grows 17 = .ok (.getfield 258, 3) := by decide +kernel
theorem dX12_grows_20 : decode cX12_grows 20 = .ok (.if_icmp .ge 89, 3) := by decide +kernel
theorem dX12_grows_23 : decode cX12_grows 23 = .ok (.aload_n 0, 1) := by decide +kernel
theorem dX12_grows_24 : decode cX12_grows 24 = .ok (.getfield 255, 3) := by decide +kernel
theorem dX12_grows_27 : decode cX12_grows 27 = .ok (.iload_n 1, 1) := by decide +kernel
theorem dX12_grows_28 : decode cX12_grows 28 = .ok (.iaload, 1) := by decide +kernel
theorem dX12_grows_29 : decode cX12_grows 29 = .ok (.istore_n 2, 1) := by decide +kernel
theorem dX12_grows_30 : decode cX12_grows 30 = .ok (.aload_n 0, 1) := by decide +kernel
theorem dX12_grows_31 : decode cX12_grows 31 = .ok (.iload_n 2, 1) := by decide +kernel
theorem dX12_grows_32 : decode cX12_grows 32 = .ok (.invokevirtual 556, 3) := by decide +kernel
theorem dX12_grows_35 : decode cX12_grows 35 = .ok (.istore_n 3, 1) := by decide +kernel
theorem dX12_grows_36 : decode cX12_grows 36 = .ok (.iload_n 3, 1) := by decide +kernel
theorem dX12_grows_37 : decode cX12_grows 37 = .ok (.iconst 4, 1) := by decide +kernel
theorem dX12_grows_38 : decode cX12_grows 38 = .ok (.if_icmp .ne 22, 3) := by decide +kernel
theorem dX12_grows_41 : decode cX12_grows 41 = .ok (.aload_n 0, 1) := by decide +kernel
theorem dX12_grows_42 : decode cX12_grows 42 = .ok (.iload_n 2, 1) := by decide +kernel
theorem dX12_grows_43 : decode cX12_grows 43 = .ok (.invokevirtual 577, 3) := by decide +kernel
theorem dX12_grows_46 : decode cX12_grows 46 = .ok (.ifCond .eq 57, 3) := by decide +kernel
theorem dX12_grows_49 : decode cX12_grows 49 = .ok (.aload_n 0, 1) := by decide +kernel
theorem dX12_grows_50 : decode cX12_grows 50 = .ok (.iload_n 2, 1) := by decide +kernel
theorem dX12_grows_51 : decode cX12_grows 51 = .ok (.invokestatic 565, 3) := by decide +kernel
theorem dX12_grows_54 : decode cX12_grows 54 = .ok (.invokevirtual 574, 3) := by decide +kernel
theorem dX12_grows_57 : decode cX12_grows 57 = .ok (.goto 46, 3) := by decide +kernel
theorem dX12_grows_60 : decode cX12_grows 60 = .ok (.iconst 0, 1) := by decide +kernel
theorem dX12_grows_61 : decode cX12_grows 61 = .ok (.istore 4, 2) := by decide +kernel
theorem dX12_grows_63 : decode cX12_grows 63 = .ok (.iload 4, 2) := by decide +kernel
theorem dX12_grows_65 : decode cX12_grows 65 = .ok (.aload_n 0, 1) := by decide +kernel
theorem dX12_grows_66 : decode cX12_grows 66 = .ok (.getfield 164, 3) := by decide +kernel
theorem dX12_grows_69 : decode cX12_grows 69 = .ok (.iload_n 3, 1) := by decide +kernel
theorem dX12_grows_70 : decode cX12_grows 70 = .ok (.iaload, 1) := by decide +kernel
theorem dX12_grows_71 : decode cX12_grows 71 = .ok (.if_icmp .ge 32, 3) := by decide +kernel
theorem dX12_grows_74 : decode cX12_grows 74 = .ok (.aload_n 0, 1) := by decide +kernel
theorem dX12_grows_75 : decode cX12_grows 75 = .ok (.aload_n 0, 1) := by decide +kernel
theorem dX12_grows_76 : decode cX12_grows 76 = .ok (.iload_n 2, 1) := by decide +kernel
theorem dX12_grows_77 : decode cX12_grows 77 = .ok (.iload_n 3, 1) := by decide +kernel
theorem dX12_grows_78 : decode cX12_grows 78 = .ok (.aload_n 0, 1) := by decide +kernel
theorem dX12_grows_79 : decode cX12_grows 79 = .ok (.getfield 203, 3) := by decide +kernel
theorem dX12_grows_82 : decode cX12_grows 82 = .ok (.sipush 2010, 3) := by decide +kernel
theorem dX12_grows_85 : decode cX12_grows 85 = .ok (.iload_n 3, 1) := by decide +kernel
theorem dX12_grows_86 : decode cX12_grows 86 = .ok (.imul, 1) := by decide +kernel
theorem dX12_grows_87 : decode cX12_grows 87 = .ok (.iload 4, 2) := by decide +kernel
theorem dX12_grows_89 : decode cX12_grows 89 = .ok (.iadd, 1) := by decide +kernel
theorem dX12_grows_90 : decode cX12_grows 90 = .ok (.iaload, 1) := by decide +kernel
theorem dX12_grows_91 : decode cX12_grows 91 = .ok (.invokevirtual 568, 3) := by decide +kernel
theorem dX12_grows_94 : decode cX12_grows 94 = .ok (.invokevirtual 574, 3) := by decide +kernel
theorem dX12_grows_97 : decode cX12_grows 97 = .ok (.iinc 4 1, 3) := by decide +kernel
theorem dX12_grows_100 : decode cX12_grows 100 = .ok (.goto (-37), 3) := by decide +kernel
theorem dX12_grows_103 : decode cX12_grows 103 = .ok (.iinc 1 1, 3) := by decide +kernel
theorem dX12_grows_106 : decode cX12_grows 106 = .ok (.goto (-91), 3) := by decide +kernel
theorem dX12_grows_109 : decode cX12_grows 109 = .ok (.return_, 1) := by decide +kernel
theorem dX12_weighs_0 : decode cX12_weighs 0 = .ok (.aload_n 0, 1) := by decide +kernel
theorem dX12_weighs_1 : decode cX12_weighs 1 = .ok (.iload_n 1, 1) := by decide +kernel
theorem dX12_weighs_2 : decode cX12_weighs 2 = .ok (.invokevirtual 556, 3) := by decide +kernel
theorem dX12_weighs_5 : decode cX12_weighs 5 = .ok (.istore_n 2, 1) := by decide +kernel
theorem dX12_weighs_6 : decode cX12_weighs 6 = .ok (.iconst 1, 1) := by decide +kernel
theorem dX12_weighs_7 : decode cX12_weighs 7 = .ok (.istore_n 3, 1) := by decide +kernel
theorem dX12_weighs_8 : decode cX12_weighs 8 = .ok (.iconst 0, 1) := by decide +kernel
theorem dX12_weighs_9 : decode cX12_weighs 9 = .ok (.istore 4, 2) := by decide +kernel
theorem dX12_weighs_11 : decode cX12_weighs 11 = .ok (.iload_n 2, 1) := by decide +kernel
theorem dX12_weighs_12 : decode cX12_weighs 12 = .ok (.iconst 4, 1) := by decide +kernel
theorem dX12_weighs_13 : decode cX12_weighs 13 = .ok (.if_icmp .ne 39, 3) := by decide +kernel
theorem dX12_weighs_16 : decode cX12_weighs 16 = .ok (.aload_n 0, 1) := by decide +kernel
theorem dX12_weighs_17 : decode cX12_weighs 17 = .ok (.iload_n 1, 1) := by decide +kernel
theorem dX12_weighs_18 : decode cX12_weighs 18 = .ok (.invokevirtual 577, 3) := by decide +kernel
theorem dX12_weighs_21 : decode cX12_weighs 21 = .ok (.ifCond .eq 31, 3) := by decide +kernel
theorem dX12_weighs_24 : decode cX12_weighs 24 = .ok (.iload_n 3, 1) := by decide +kernel
theorem dX12_weighs_25 : decode cX12_weighs 25 = .ok (.aload_n 0, 1) := by decide +kernel
theorem dX12_weighs_26 : decode cX12_weighs 26 = .ok (.getfield 261, 3) := by decide +kernel
theorem dX12_weighs_29 : decode cX12_weighs 29 = .ok (.iload_n 1, 1) := by decide +kernel
theorem dX12_weighs_30 : decode cX12_weighs 30 = .ok (.invokestatic 565, 3) := by decide +kernel
theorem dX12_weighs_33 : decode cX12_weighs 33 = .ok (.iaload, 1) := by decide +kernel
theorem dX12_weighs_34 : decode cX12_weighs 34 = .ok (.iconst 3, 1) := by decide +kernel
theorem dX12_weighs_35 : decode cX12_weighs 35 = .ok (.ishr, 1) := by decide +kernel
theorem dX12_weighs_36 : decode cX12_weighs 36 = .ok (.iadd, 1) := by decide +kernel
theorem dX12_weighs_37 : decode cX12_weighs 37 = .ok (.istore_n 3, 1) := by decide +kernel
theorem dX12_weighs_38 : decode cX12_weighs 38 = .ok (.aload_n 0, 1) := by decide +kernel
theorem dX12_weighs_39 : decode cX12_weighs 39 = .ok (.getfield 261, 3) := by decide +kernel
theorem dX12_weighs_42 : decode cX12_weighs 42 = .ok (.iload_n 1, 1) := by decide +kernel
theorem dX12_weighs_43 : decode cX12_weighs 43 = .ok (.invokestatic 565, 3) := by decide +kernel
theorem dX12_weighs_46 : decode cX12_weighs 46 = .ok (.iaload, 1) := by decide +kernel
theorem dX12_weighs_47 : decode cX12_weighs 47 = .ok (.bipush 7, 2) := by decide +kernel
theorem dX12_weighs_49 : decode cX12_weighs 49 = .ok (.iand, 1) := by decide +kernel
theorem dX12_weighs_50 : decode cX12_weighs 50 = .ok (.istore 4, 2) := by decide +kernel
theorem dX12_weighs_52 : decode cX12_weighs 52 = .ok (.aload_n 0, 1) := by decide +kernel
theorem dX12_weighs_53 : decode cX12_weighs 53 = .ok (.dup, 1) := by decide +kernel
theorem dX12_weighs_54 : decode cX12_weighs 54 = .ok (.getfield 249, 3) := by decide +kernel
theorem dX12_weighs_57 : decode cX12_weighs 57 = .ok (.iconst 1, 1) := by decide +kernel
theorem dX12_weighs_58 : decode cX12_weighs 58 = .ok (.iadd, 1) := by decide +kernel
theorem dX12_weighs_59 : decode cX12_weighs 59 = .ok (.putfield 249, 3) := by decide +kernel
theorem dX12_weighs_62 : decode cX12_weighs 62 = .ok (.iconst 0, 1) := by decide +kernel
theorem dX12_weighs_63 : decode cX12_weighs 63 = .ok (.istore 5, 2) := by decide +kernel
theorem dX12_weighs_65 : decode cX12_weighs 65 = .ok (.iload_n 2, 1) := by decide +kernel
theorem dX12_weighs_66 : decode cX12_weighs 66 = .ok (.iconst 4, 1) := by decide +kernel
theorem dX12_weighs_67 : decode cX12_weighs 67 = .ok (.if_icmp .ge 117, 3) := by decide +kernel
theorem dX12_weighs_70 : decode cX12_weighs 70 = .ok (.iload 5, 2) := by decide +kernel
theorem dX12_weighs_72 : decode cX12_weighs 72 = .ok (.aload_n 0, 1) := by decide +kernel
theorem dX12_weighs_73 : decode cX12_weighs 73 = .ok (.getfield 164, 3) := by decide +kernel
end
section
theorem dX12_weighs_76 : decode cX12_weighs 76 = .ok (.iload_n 2, 1) := by decide +kernel
theorem dX12_weighs_77 : decode cX12_weighs 77 = .ok (.iaload, 1) := by decide +kernel
theorem dX12_weighs_78 : decode cX12_weighs 78 = .ok (.if_icmp .ge 106, 3) := by decide +kernel
theorem dX12_weighs_81 : decode cX12_weighs 81 = .ok (.aload_n 0, 1) := by decide +kernel
theorem dX12_weighs_82 : decode cX12_weighs 82 = .ok (.iload_n 1, 1) := by decide +kernel
theorem dX12_weighs_83 : decode cX12_weighs 83 = .ok (.iload_n 2, 1) := by decide +kernel
theorem dX12_weighs_84 : decode cX12_weighs 84 = .ok (.aload_n 0, 1) := by decide +kernel
theorem dX12_weighs_85 : decode cX12_weighs 85 = .ok (.getfield 203, 3) := by decide +kernel
theorem dX12_weighs_88 : decode cX12_weighs 88 = .ok (.sipush 2010, 3) := by decide +kernel
theorem dX12_weighs_91 : decode cX12_weighs 91 = .ok (.iload_n 2, 1) := by decide +kernel
theorem dX12_weighs_92 : decode cX12_weighs 92 = .ok (.imul, 1) := by decide +kernel
theorem dX12_weighs_93 : decode cX12_weighs 93 = .ok (.iload 5, 2) := by decide +kernel
theorem dX12_weighs_95 : decode cX12_weighs 95 = .ok (.iadd, 1) := by decide +kernel
theorem dX12_weighs_96 : decode cX12_weighs 96 = .ok (.iaload, 1) := by decide +kernel
theorem dX12_weighs_97 : decode cX12_weighs 97 = .ok (.invokevirtual 568, 3) := by decide +kernel
theorem dX12_weighs_100 : decode cX12_weighs 100 = .ok (.istore 6, 2) := by decide +kernel
theorem dX12_weighs_102 : decode cX12_weighs 102 = .ok (.aload_n 0, 1) := by decide +kernel
theorem dX12_weighs_103 : decode cX12_weighs 103 = .ok (.getfield 246, 3) := by decide +kernel
theorem dX12_weighs_106 : decode cX12_weighs 106 = .ok (.iload 6, 2) := by decide +kernel
theorem dX12_weighs_108 : decode cX12_weighs 108 = .ok (.invokestatic 547, 3) := by decide +kernel
theorem dX12_weighs_111 : decode cX12_weighs 111 = .ok (.iaload, 1) := by decide +kernel
theorem dX12_weighs_112 : decode cX12_weighs 112 = .ok (.aload_n 0, 1) := by decide +kernel
theorem dX12_weighs_113 : decode cX12_weighs 113 = .ok (.getfield 249, 3) := by decide +kernel
theorem dX12_weighs_116 : decode cX12_weighs 116 = .ok (.if_icmp .ne 6, 3) := by decide +kernel
theorem dX12_weighs_119 : decode cX12_weighs 119 = .ok (.goto 59, 3) := by decide +kernel
theorem dX12_weighs_122 : decode cX12_weighs 122 = .ok (.aload_n 0, 1) := by decide +kernel
theorem dX12_weighs_123 : decode cX12_weighs 123 = .ok (.getfield 246, 3) := by decide +kernel
theorem dX12_weighs_126 : decode cX12_weighs 126 = .ok (.iload 6, 2) := by decide +kernel
theorem dX12_weighs_128 : decode cX12_weighs 128 = .ok (.invokestatic 547, 3) := by decide +kernel
theorem dX12_weighs_131 : decode cX12_weighs 131 = .ok (.aload_n 0, 1) := by decide +kernel
theorem dX12_weighs_132 : decode cX12_weighs 132 = .ok (.getfield 249, 3) := by decide +kernel
theorem dX12_weighs_135 : decode cX12_weighs 135 = .ok (.iastore, 1) := by decide +kernel
theorem dX12_weighs_136 : decode cX12_weighs 136 = .ok (.iload_n 3, 1) := by decide +kernel
theorem dX12_weighs_137 : decode cX12_weighs 137 = .ok (.aload_n 0, 1) := by decide +kernel
theorem dX12_weighs_138 : decode cX12_weighs 138 = .ok (.getfield 261, 3) := by decide +kernel
theorem dX12_weighs_141 : decode cX12_weighs 141 = .ok (.iload 6, 2) := by decide +kernel
theorem dX12_weighs_143 : decode cX12_weighs 143 = .ok (.iaload, 1) := by decide +kernel
theorem dX12_weighs_144 : decode cX12_weighs 144 = .ok (.iconst 3, 1) := by decide +kernel
theorem dX12_weighs_145 : decode cX12_weighs 145 = .ok (.ishr, 1) := by decide +kernel
theorem dX12_weighs_146 : decode cX12_weighs 146 = .ok (.iadd, 1) := by decide +kernel
theorem dX12_weighs_147 : decode cX12_weighs 147 = .ok (.istore_n 3, 1) := by decide +kernel
theorem dX12_weighs_148 : decode cX12_weighs 148 = .ok (.aload_n 0, 1) := by decide +kernel
theorem dX12_weighs_149 : decode cX12_weighs 149 = .ok (.getfield 261, 3) := by decide +kernel
theorem dX12_weighs_152 : decode cX12_weighs 152 = .ok (.iload 6, 2) := by decide +kernel
theorem dX12_weighs_154 : decode cX12_weighs 154 = .ok (.iaload, 1) := by decide +kernel
theorem dX12_weighs_155 : decode cX12_weighs 155 = .ok (.bipush 7, 2) := by decide +kernel
theorem dX12_weighs_157 : decode cX12_weighs 157 = .ok (.iand, 1) := by decide +kernel
theorem dX12_weighs_158 : decode cX12_weighs 158 = .ok (.iconst 1, 1) := by decide +kernel
theorem dX12_weighs_159 : decode cX12_weighs 159 = .ok (.iadd, 1) := by decide +kernel
theorem dX12_weighs_160 : decode cX12_weighs 160 = .ok (.istore 7, 2) := by decide +kernel
theorem dX12_weighs_162 : decode cX12_weighs 162 = .ok (.iload 7, 2) := by decide +kernel
theorem dX12_weighs_164 : decode cX12_weighs 164 = .ok (.iload 4, 2) := by decide +kernel
theorem dX12_weighs_166 : decode cX12_weighs 166 = .ok (.if_icmp .le 8, 3) := by decide +kernel
theorem dX12_weighs_169 : decode cX12_weighs 169 = .ok (.iload 7, 2) := by decide +kernel
theorem dX12_weighs_171 : decode cX12_weighs 171 = .ok (.goto 5, 3) := by decide +kernel
theorem dX12_weighs_174 : decode cX12_weighs 174 = .ok (.iload 4, 2) := by decide +kernel
theorem dX12_weighs_176 : decode cX12_weighs 176 = .ok (.istore 4, 2) := by decide +kernel
theorem dX12_weighs_178 : decode cX12_weighs 178 = .ok (.iinc 5 1, 3) := by decide +kernel
theorem dX12_weighs_181 : decode cX12_weighs 181 = .ok (.goto (-116), 3) := by decide +kernel
theorem dX12_weighs_184 : decode cX12_weighs 184 = .ok (.aload_n 0, 1) := by decide +kernel
theorem dX12_weighs_185 : decode cX12_weighs 185 = .ok (.getfield 261, 3) := by decide +kernel
theorem dX12_weighs_188 : decode cX12_weighs 188 = .ok (.iload_n 1, 1) := by decide +kernel
theorem dX12_weighs_189 : decode cX12_weighs 189 = .ok (.iload_n 3, 1) := by decide +kernel
theorem dX12_weighs_190 : decode cX12_weighs 190 = .ok (.ldc_w 580, 3) := by decide +kernel
theorem dX12_weighs_193 : decode cX12_weighs 193 = .ok (.if_icmp .le 9, 3) := by decide +kernel
theorem dX12_weighs_196 : decode cX12_weighs 196 = .ok (.ldc_w 580, 3) := by decide +kernel
theorem dX12_weighs_199 : decode cX12_weighs 199 = .ok (.goto 4, 3) := by decide +kernel
theorem dX12_weighs_202 : decode cX12_weighs 202 = .ok (.iload_n 3, 1) := by decide +kernel
theorem dX12_weighs_203 : decode cX12_weighs 203 = .ok (.iconst 3, 1) := by decide +kernel
theorem dX12_weighs_204 : decode cX12_weighs 204 = .ok (.ishl, 1) := by decide +kernel
theorem dX12_weighs_205 : decode cX12_weighs 205 = .ok (.iload 4, 2) := by decide +kernel
theorem dX12_weighs_207 : decode cX12_weighs 207 = .ok (.ior, 1) := by decide +kernel
theorem dX12_weighs_208 : decode cX12_weighs 208 = .ok (.iastore, 1) := by decide +kernel
theorem dX12_weighs_209 : decode cX12_weighs 209 = .ok (.return_, 1) := by decide +kernel
theorem dX12_sizeOf_0 : decode cX12_sizeOf 0 = .ok (.iload_n 0, 1) := by decide +kernel
theorem dX12_sizeOf_1 : decode cX12_sizeOf 1 = .ok (.invokestatic 544, 3) := by decide +kernel
theorem dX12_sizeOf_4 : decode cX12_sizeOf 4 = .ok (.ireturn, 1) := by decide +kernel
theorem dX12_tree_0 : decode cX12_tree 0 = .ok (.aload_n 0, 1) := by decide +kernel
theorem dX12_tree_1 : decode cX12_tree 1 = .ok (.getfield 146, 3) := by decide +kernel
theorem dX12_tree_4 : decode cX12_tree 4 = .ok (.ifCond .eq 21, 3) := by decide +kernel
theorem dX12_tree_7 : decode cX12_tree 7 = .ok (.iload_n 1, 1) := by decide +kernel
theorem dX12_tree_8 : decode cX12_tree 8 = .ok (.iconst 0, 1) := by decide +kernel
theorem dX12_tree_9 : decode cX12_tree 9 = .ok (.iconst 3, 1) := by decide +kernel
theorem dX12_tree_10 : decode cX12_tree 10 = .ok (.invokestatic 362, 3) := by decide +kernel
theorem dX12_tree_13 : decode cX12_tree 13 = .ok (.ifCond .eq 12, 3) := by decide +kernel
theorem dX12_tree_16 : decode cX12_tree 16 = .ok (.iload_n 2, 1) := by decide +kernel
theorem dX12_tree_17 : decode cX12_tree 17 = .ok (.iconst 0, 1) := by decide +kernel
theorem dX12_tree_18 : decode cX12_tree 18 = .ok (.iconst 3, 1) := by decide +kernel
theorem dX12_tree_19 : decode cX12_tree 19 = .ok (.invokestatic 362, 3) := by decide +kernel
theorem dX12_tree_22 : decode cX12_tree 22 = .ok (.ifCond .ne 5, 3) := by decide +kernel
theorem dX12_tree_25 : decode cX12_tree 25 = .ok (.iconst (-1), 1) := by decide +kernel
theorem dX12_tree_26 : decode cX12_tree 26 = .ok (.ireturn, 1) := by decide +kernel
theorem dX12_tree_27 : decode cX12_tree 27 = .ok (.aload_n 0, 1) := by decide +kernel
theorem dX12_tree_28 : decode cX12_tree 28 = .ok (.iconst 0, 1) := by decide +kernel
theorem dX12_tree_29 : decode cX12_tree 29 = .ok (.iload_n 1, 1) := by decide +kernel
theorem dX12_tree_30 : decode cX12_tree 30 = .ok (.invokevirtual 581, 3) := by decide +kernel
theorem dX12_tree_33 : decode cX12_tree 33 = .ok (.iload_n 2, 1) := by decide +kernel
theorem dX12_tree_34 : decode cX12_tree 34 = .ok (.iconst 3, 1) := by decide +kernel
theorem dX12_tree_35 : decode cX12_tree 35 = .ok (.if_icmp .ne 9, 3) := by decide +kernel
theorem dX12_tree_38 : decode cX12_tree 38 = .ok (.aload_n 0, 1) := by decide +kernel
theorem dX12_tree_39 : decode cX12_tree 39 = .ok (.iconst 0, 1) := by decide +kernel
theorem dX12_tree_40 : decode cX12_tree 40 = .ok (.invokevirtual 584, 3) := by decide +kernel
theorem dX12_tree_43 : decode cX12_tree 43 = .ok (.ireturn, 1) := by decide +kernel
theorem dX12_tree_44 : decode cX12_tree 44 = .ok (.aload_n 0, 1) := by decide +kernel
theorem dX12_tree_45 : decode cX12_tree 45 = .ok (.invokevirtual 587, 3) := by decide +kernel
theorem dX12_tree_48 : decode cX12_tree 48 = .ok (.iload_n 2, 1) := by decide +kernel
theorem dX12_tree_49 : decode cX12_tree 49 = .ok (.iconst 1, 1) := by decide +kernel
theorem dX12_tree_50 : decode cX12_tree 50 = .ok (.if_icmp .ne 8, 3) := by decide +kernel
theorem dX12_tree_53 : decode cX12_tree 53 = .ok (.aload_n 0, 1) := by decide +kernel
theorem dX12_tree_54 : decode cX12_tree 54 = .ok (.getfield 258, 3) := by decide +kernel
theorem dX12_tree_57 : decode cX12_tree 57 = .ok (.ireturn, 1) := by decide +kernel
theorem dX12_tree_58 : decode cX12_tree 58 = .ok (.iconst 0, 1) := by decide +kernel
theorem dX12_tree_59 : decode cX12_tree 59 = .ok (.istore_n 3, 1) := by decide +kernel
theorem dX12_tree_60 : decode cX12_tree 60 = .ok (.iload_n 3, 1) := by decide +kernel
theorem dX12_tree_61 : decode cX12_tree 61 = .ok (.bipush 16, 2) := by decide +kernel
theorem dX12_tree_63 : decode cX12_tree 63 = .ok (.if_icmp .gt 52, 3) := by decide +kernel
theorem dX12_tree_66 : decode cX12_tree 66 = .ok (.iconst 0, 1) := by decide +kernel
theorem dX12_tree_67 : decode cX12_tree 67 = .ok (.istore 4, 2) := by decide +kernel
theorem dX12_tree_69 : decode cX12_tree 69 = .ok (.iload 4, 2) := by decide +kernel
theorem dX12_tree_71 : decode cX12_tree 71 = .ok (.aload_n 0, 1) := by decide +kernel
theorem dX12_tree_72 : decode cX12_tree 72 = .ok (.getfield 258, 3) := by decide +kernel
theorem dX12_tree_75 : decode cX12_tree 75 = .ok (.if_icmp .ge 34, 3) := by decide +kernel
theorem dX12_tree_78 : decode cX12_tree 78 = .ok (.aload_n 0, 1) := by decide +kernel
theorem dX12_tree_79 : decode cX12_tree 79 = .ok (.getfield 255, 3) := by decide +kernel
theorem dX12_tree_82 : decode cX12_tree 82 = .ok (.iload 4, 2) := by decide +kernel
theorem dX12_tree_84 : decode cX12_tree 84 = .ok (.iaload, 1) := by decide +kernel
theorem dX12_tree_85 : decode cX12_tree 85 = .ok (.invokestatic 590, 3) := by decide +kernel
theorem dX12_tree_88 : decode cX12_tree 88 = .ok (.iload_n 3, 1) := by decide +kernel
theorem dX12_tree_89 : decode cX12_tree 89 = .ok (.if_icmp .ne 14, 3) := by decide +kernel
theorem dX12_tree_92 : decode cX12_tree 92 = .ok (.aload_n 0, 1) := by decide +kernel
theorem dX12_tree_93 : decode cX12_tree 93 = .ok (.aload_n 0, 1) := by decide +kernel
theorem dX12_tree_94 : decode cX12_tree 94 = .ok (.getfield 255, 3) := by decide +kernel
theorem dX12_tree_97 : decode cX12_tree 97 = .ok (.iload 4, 2) := by decide +kernel
theorem dX12_tree_99 : decode cX12_tree 99 = .ok (.iaload, 1) := by decide +kernel
theorem dX12_tree_100 : decode cX12_tree 100 = .ok (.invokevirtual 593, 3) := by decide +kernel
theorem dX12_tree_103 : decode cX12_tree 103 = .ok (.iinc 4 1, 3) := by decide +kernel
theorem dX12_tree_106 : decode cX12_tree 106 = .ok (.goto (-37), 3) := by decide +kernel
theorem dX12_tree_109 : decode cX12_tree 109 = .ok (.iinc 3 1, 3) := by decide +kernel
theorem dX12_tree_112 : decode cX12_tree 112 = .ok (.goto (-52), 3) := by decide +kernel
theorem dX12_tree_115 : decode cX12_tree 115 = .ok (.iload_n 2, 1) := by decide +kernel
theorem dX12_tree_116 : decode cX12_tree 116 = .ok (.ifCond .ne 17, 3) := by decide +kernel
theorem dX12_tree_119 : decode cX12_tree 119 = .ok (.aload_n 0, 1) := by decide +kernel
theorem dX12_tree_120 : decode cX12_tree 120 = .ok (.getfield 261, 3) := by decide +kernel
theorem dX12_tree_123 : decode cX12_tree 123 = .ok (.aload_n 0, 1) := by decide +kernel
theorem dX12_tree_124 : decode cX12_tree 124 = .ok (.invokevirtual 562, 3) := by decide +kernel
theorem dX12_tree_127 : decode cX12_tree 127 = .ok (.iaload, 1) := by decide +kernel
theorem dX12_tree_128 : decode cX12_tree 128 = .ok (.iconst 3, 1) := by decide +kernel
theorem dX12_tree_129 : decode cX12_tree 129 = .ok (.ishr, 1) := by decide +kernel
theorem dX12_tree_130 : decode cX12_tree 130 = .ok (.goto 15, 3) := by decide +kernel
theorem dX12_tree_133 : decode cX12_tree 133 = .ok (.aload_n 0, 1) := by decide +kernel
theorem dX12_tree_134 : decode cX12_tree 134 = .ok (.getfield 261, 3) := by decide +kernel
theorem dX12_tree_137 : decode cX12_tree 137 = .ok (.aload_n 0, 1) := by decide +kernel
theorem dX12_tree_138 : decode cX12_tree 138 = .ok (.invokevirtual 562, 3) := by decide +kernel
theorem dX12_tree_141 : decode cX12_tree 141 = .ok (.iaload, 1) := by decide +kernel
theorem dX12_tree_142 : decode cX12_tree 142 = .ok (.bipush 7, 2) := by decide +kernel
theorem dX12_tree_144 : decode cX12_tree 144 = .ok (.iand, 1) := by decide +kernel
theorem dX12_tree_145 : decode cX12_tree 145 = .ok (.ireturn, 1) := by decide +kernel
theorem dX12_first_0 : decode cX12_first 0 = .ok (.aload_n 0, 1) := by decide +kernel
theorem dX12_first_1 : decode cX12_first 1 = .ok (.getfield 146, 3) := by decide +kernel
theorem dX12_first_4 : decode cX12_first 4 = .ok (.ifCond .eq 12, 3) := by decide +kernel
theorem dX12_first_7 : decode cX12_first 7 = .ok (.iload_n 1, 1) := by decide +kernel
theorem dX12_first_8 : decode cX12_first 8 = .ok (.iconst 0, 1) := by decide +kernel
theorem dX12_first_9 : decode cX12_first 9 = .ok (.iconst 3, 1) := by decide +kernel
theorem dX12_first_10 : decode cX12_first 10 = .ok (.invokestatic 362, 3) := by decide +kernel
theorem dX12_first_13 : decode cX12_first 13 = .ok (.ifCond .ne 5, 3) := by decide +kernel
theorem dX12_first_16 : decode cX12_first 16 = .ok (.iconst (-1), 1) := by decide +kernel
theorem dX12_first_17 : decode cX12_first 17 = .ok (.ireturn, 1) := by decide +kernel
theorem dX12_first_18 : decode cX12_first 18 = .ok (.aload_n 0, 1) := by decide +kernel
theorem dX12_first_19 : decode cX12_first 19 = .ok (.iconst 0, 1) := by decide +kernel
theorem dX12_first_20 : decode cX12_first 20 = .ok (.iload_n 1, 1) := by decide +kernel
theorem dX12_first_21 : decode cX12_first 21 = .ok (.invokevirtual 581, 3) := by decide +kernel
theorem dX12_first_24 : decode cX12_first 24 = .ok (.aload_n 0, 1) := by decide +kernel
theorem dX12_first_25 : decode cX12_first 25 = .ok (.invokevirtual 562, 3) := by decide +kernel
theorem dX12_first_28 : decode cX12_first 28 = .ok (.istore_n 2, 1) := by decide +kernel
theorem dX12_first_29 : decode cX12_first 29 = .ok (.aload_n 0, 1) := by decide +kernel
theorem dX12_first_30 : decode cX12_first 30 = .ok (.iload_n 2, 1) := by decide +kernel
theorem dX12_first_31 : decode cX12_first 31 = .ok (.invokevirtual 577, 3) := by decide +kernel
theorem dX12_first_34 : decode cX12_first 34 = .ok (.ifCond .eq 11, 3) := by decide +kernel
theorem dX12_first_37 : decode cX12_first 37 = .ok (.iload_n 2, 1) := by decide +kernel
theorem dX12_first_38 : decode cX12_first 38 = .ok (.invokestatic 565, 3) := by decide +kernel
theorem dX12_first_41 : decode cX12_first 41 = .ok (.istore_n 2, 1) := by decide +kernel
theorem dX12_first_42 : decode cX12_first 42 = .ok (.goto (-13), 3) := by decide +kernel
theorem dX12_first_45 : decode cX12_first 45 = .ok (.aload_n 0, 1) := by decide +kernel
theorem dX12_first_46 : decode cX12_first 46 = .ok (.iload_n 2, 1) := by decide +kernel
theorem dX12_first_47 : decode cX12_first 47 = .ok (.invokevirtual 556, 3) := by decide +kernel
theorem dX12_first_50 : decode cX12_first 50 = .ok (.istore_n 3, 1) := by decide +kernel
theorem dX12_first_51 : decode cX12_first 51 = .ok (.iload_n 3, 1) := by decide +kernel
theorem dX12_first_52 : decode cX12_first 52 = .ok (.iconst 4, 1) := by decide +kernel
theorem dX12_first_53 : decode cX12_first 53 = .ok (.if_icmp .ne 7, 3) := by decide +kernel
theorem dX12_first_56 : decode cX12_first 56 = .ok (.iconst (-1), 1) := by decide +kernel
theorem dX12_first_57 : decode cX12_first 57 = .ok (.goto 4, 3) := by decide +kernel
theorem dX12_first_60 : decode cX12_first 60 = .ok (.iload_n 3, 1) := by decide +kernel
theorem dX12_first_61 : decode cX12_first 61 = .ok (.ireturn, 1) := by decide +kernel
theorem dX12_isNewSet_0 : decode cX12_isNewSet 0 = .ok (.iconst 0, 1) := by decide +kernel
theorem dX12_isNewSet_1 : decode cX12_isNewSet 1 = .ok (.istore 4, 2) := by decide +kernel
theorem dX12_isNewSet_3 : decode cX12_isNewSet 3 = .ok (.iload 4, 2) := by decide +kernel
theorem dX12_isNewSet_5 : decode cX12_isNewSet 5 = .ok (.iload_n 3, 1) := by decide +kernel
theorem dX12_isNewSet_6 : decode cX12_isNewSet 6 = .ok (.if_icmp .ge 43, 3) := by decide +kernel
theorem dX12_isNewSet_9 : decode cX12_isNewSet 9 = .ok (.aload_n 0, 1) := by decide +kernel
theorem dX12_isNewSet_10 : decode cX12_isNewSet 10 = .ok (.getfield 203, 3) := by decide +kernel
theorem dX12_isNewSet_13 : decode cX12_isNewSet 13 = .ok (.sipush 2010, 3) := by decide +kernel
theorem dX12_isNewSet_16 : decode cX12_isNewSet 16 = .ok (.iload_n 2, 1) := by decide +kernel
theorem dX12_isNewSet_17 : decode cX12_isNewSet 17 = .ok (.imul, 1) := by decide +kernel
theorem dX12_isNewSet_18 : decode cX12_isNewSet 18 = .ok (.iload 4, 2) := by decide +kernel
theorem dX12_isNewSet_20 : decode cX12_isNewSet 20 = .ok (.iadd, 1) := by decide +kernel
theorem dX12_isNewSet_21 : decode cX12_isNewSet 21 = .ok (.iaload, 1) := by decide +kernel
theorem dX12_isNewSet_22 : decode cX12_isNewSet 22 = .ok (.iload_n 1, 1) := by decide +kernel
theorem dX12_isNewSet_23 : decode cX12_isNewSet 23 = .ok (.iand, 1) := by decide +kernel
theorem dX12_isNewSet_24 : decode cX12_isNewSet 24 = .ok (.aload_n 0, 1) := by decide +kernel
theorem dX12_isNewSet_25 : decode cX12_isNewSet 25 = .ok (.getfield 203, 3) := by decide +kernel
theorem dX12_isNewSet_28 : decode cX12_isNewSet 28 = .ok (.sipush 2010, 3) := by decide +kernel
theorem dX12_isNewSet_31 : decode cX12_isNewSet 31 = .ok (.iload_n 2, 1) := by decide +kernel
theorem dX12_isNewSet_32 : decode cX12_isNewSet 32 = .ok (.imul, 1) := by decide +kernel
theorem dX12_isNewSet_33 : decode cX12_isNewSet 33 = .ok (.iload_n 3, 1) := by decide +kernel
theorem dX12_isNewSet_34 : decode cX12_isNewSet 34 = .ok (.iadd, 1) := by decide +kernel
theorem dX12_isNewSet_35 : decode cX12_isNewSet 35 = .ok (.iaload, 1) := by decide +kernel
theorem dX12_isNewSet_36 : decode cX12_isNewSet 36 = .ok (.iload_n 1, 1) := by decide +kernel
theorem dX12_isNewSet_37 : decode cX12_isNewSet 37 = .ok (.iand, 1) := by decide +kernel
theorem dX12_isNewSet_38 : decode cX12_isNewSet 38 = .ok (.if_icmp .ne 5, 3) := by decide +kernel
theorem dX12_isNewSet_41 : decode cX12_isNewSet 41 = .ok (.iconst 0, 1) := by decide +kernel
theorem dX12_isNewSet_42 : decode cX12_isNewSet 42 = .ok (.ireturn, 1) := by decide +kernel
theorem dX12_isNewSet_43 : decode cX12_isNewSet 43 = .ok (.iinc 4 1, 3) := by decide +kernel
theorem dX12_isNewSet_46 : decode cX12_isNewSet 46 = .ok (.goto (-43), 3) := by decide +kernel
theorem dX12_isNewSet_49 : decode cX12_isNewSet 49 = .ok (.iconst 1, 1) := by decide +kernel
theorem dX12_isNewSet_50 : decode cX12_isNewSet 50 = .ok (.ireturn, 1) := by decide +kernel
theorem dX12_nextBranch_0 : decode cX12_nextBranch 0 = .ok (.aload_n 0, 1) := by decide +kernel
theorem dX12_nextBranch_1 : decode cX12_nextBranch 1 = .ok (.getfield 264, 3) := by decide +kernel
theorem dX12_nextBranch_4 : decode cX12_nextBranch 4 = .ok (.iload_n 1, 1) := by decide +kernel
theorem dX12_nextBranch_5 : decode cX12_nextBranch 5 = .ok (.iaload, 1) := by decide +kernel
theorem dX12_nextBranch_6 : decode cX12_nextBranch 6 = .ok (.istore_n 2, 1) := by decide +kernel
theorem dX12_nextBranch_7 : decode cX12_nextBranch 7 = .ok (.aload_n 0, 1) := by decide +kernel
theorem dX12_nextBranch_8 : decode cX12_nextBranch 8 = .ok (.iload_n 2, 1) := by decide +kernel
theorem dX12_nextBranch_9 : decode cX12_nextBranch 9 = .ok (.invokevirtual 556, 3) := by decide +kernel
theorem dX12_nextBranch_12 : decode cX12_nextBranch 12 = .ok (.istore_n 3, 1) := by decide +kernel
theorem dX12_nextBranch_13 : decode cX12_nextBranch 13 = .ok (.iload_n 3, 1) := by decide +kernel
theorem dX12_nextBranch_14 : decode cX12_nextBranch 14 = .ok (.iconst 4, 1) := by decide +kernel
theorem dX12_nextBranch_15 : decode cX12_nextBranch 15 = .ok (.if_icmp .ne 40, 3) := by decide +kernel
theorem dX12_nextBranch_18 : decode cX12_nextBranch 18 = .ok (.aload_n 0, 1) := by decide +kernel
theorem dX12_nextBranch_19 : decode cX12_nextBranch 19 = .ok (.getfield 267, 3) := by decide +kernel
theorem dX12_nextBranch_22 : decode cX12_nextBranch 22 = .ok (.iload_n 1, 1) := by decide +kernel
theorem dX12_nextBranch_23 : decode cX12_nextBranch 23 = .ok (.dup2, 1) := by decide +kernel
theorem dX12_nextBranch_24 : decode cX12_nextBranch 24 = .ok (.iaload, 1) := by decide +kernel
theorem dX12_nextBranch_25 : decode cX12_nextBranch 25 = .ok (.iconst 1, 1) := by decide +kernel
theorem dX12_nextBranch_26 : decode cX12_nextBranch 26 = .ok (.iadd, 1) := by decide +kernel
theorem dX12_nextBranch_27 : decode cX12_nextBranch 27 = .ok (.iastore, 1) := by decide +kernel
theorem dX12_nextBranch_28 : decode cX12_nextBranch 28 = .ok (.aload_n 0, 1) := by decide +kernel
theorem dX12_nextBranch_29 : decode cX12_nextBranch 29 = .ok (.getfield 267, 3) := by decide +kernel
theorem dX12_nextBranch_32 : decode cX12_nextBranch 32 = .ok (.iload_n 1, 1) := by decide +kernel
theorem dX12_nextBranch_33 : decode cX12_nextBranch 33 = .ok (.iaload, 1) := by decide +kernel
theorem dX12_nextBranch_34 : decode cX12_nextBranch 34 = .ok (.iconst 1, 1) := by decide +kernel
theorem dX12_nextBranch_35 : decode cX12_nextBranch 35 = .ok (.if_icmp .ne 18, 3) := by decide +kernel
theorem dX12_nextBranch_38 : decode cX12_nextBranch 38 = .ok (.aload_n 0, 1) := by decide +kernel
theorem dX12_nextBranch_39 : decode cX12_nextBranch 39 = .ok (.iload_n 2, 1) := by decide +kernel
theorem dX12_nextBranch_40 : decode cX12_nextBranch 40 = .ok (.invokevirtual 577, 3) := by decide +kernel
theorem dX12_nextBranch_43 : decode cX12_nextBranch 43 = .ok (.ifCond .eq 10, 3) := by decide +kernel
theorem dX12_nextBranch_46 : decode cX12_nextBranch 46 = .ok (.iload_n 2, 1) := by decide +kernel
theorem dX12_nextBranch_47 : decode cX12_nextBranch 47 = .ok (.invokestatic 565, 3) := by decide +kernel
theorem dX12_nextBranch_50 : decode cX12_nextBranch 50 = .ok (.goto 4, 3) := by decide +kernel
theorem dX12_nextBranch_53 : decode cX12_nextBranch 53 = .ok (.iconst (-1), 1) := by decide +kernel
theorem dX12_nextBranch_54 : decode cX12_nextBranch 54 = .ok (.ireturn, 1) := by decide +kernel
theorem dX12_nextBranch_55 : decode cX12_nextBranch 55 = .ok (.aload_n 0, 1) := by decide +kernel
theorem dX12_nextBranch_56 : decode cX12_nextBranch 56 = .ok (.getfield 267, 3) := by decide +kernel
theorem dX12_nextBranch_59 : decode cX12_nextBranch 59 = .ok (.iload_n 1, 1) := by decide +kernel
theorem dX12_nextBranch_60 : decode cX12_nextBranch 60 = .ok (.iaload, 1) := by decide +kernel
theorem dX12_nextBranch_61 : decode cX12_nextBranch 61 = .ok (.aload_n 0, 1) := by decide +kernel
theorem dX12_nextBranch_62 : decode cX12_nextBranch 62 = .ok (.getfield 164, 3) := by decide +kernel
theorem dX12_nextBranch_65 : decode cX12_nextBranch 65 = .ok (.iload_n 3, 1) := by decide +kernel
theorem dX12_nextBranch_66 : decode cX12_nextBranch 66 = .ok (.iaload, 1) := by decide +kernel
theorem dX12_nextBranch_67 : decode cX12_nextBranch 67 = .ok (.if_icmp .ge 58, 3) := by decide +kernel
theorem dX12_nextBranch_70 : decode cX12_nextBranch 70 = .ok (.aload_n 0, 1) := by decide +kernel
theorem dX12_nextBranch_71 : decode cX12_nextBranch 71 = .ok (.getfield 267, 3) := by decide +kernel
theorem dX12_nextBranch_74 : decode cX12_nextBranch 74 = .ok (.iload_n 1, 1) := by decide +kernel
theorem dX12_nextBranch_75 : decode cX12_nextBranch 75 = .ok (.iaload, 1) := by decide +kernel
theorem dX12_nextBranch_76 : decode cX12_nextBranch 76 = .ok (.istore 4, 2) := by decide +kernel
theorem dX12_nextBranch_78 : decode cX12_nextBranch 78 = .ok (.aload_n 0, 1) := by decide +kernel
theorem dX12_nextBranch_79 : decode cX12_nextBranch 79 = .ok (.getfield 267, 3) := by decide +kernel
theorem dX12_nextBranch_82 : decode cX12_nextBranch 82 = .ok (.iload_n 1, 1) := by decide +kernel
theorem dX12_nextBranch_83 : decode cX12_nextBranch 83 = .ok (.dup2, 1) := by decide +kernel
theorem dX12_nextBranch_84 : decode cX12_nextBranch 84 = .ok (.iaload, 1) := by decide +kernel
theorem dX12_nextBranch_85 : decode cX12_nextBranch 85 = .ok (.iconst 1, 1) := by decide +kernel
theorem dX12_nextBranch_86 : decode cX12_nextBranch 86 = .ok (.iadd, 1) := by decide +kernel
theorem dX12_nextBranch_87 : decode cX12_nextBranch 87 = .ok (.iastore, 1) := by decide +kernel
theorem dX12_nextBranch_88 : decode cX12_nextBranch 88 = .ok (.aload_n 0, 1) := by decide +kernel
theorem dX12_nextBranch_89 : decode cX12_nextBranch 89 = .ok (.iload_n 2, 1) := by decide +kernel
theorem dX12_nextBranch_90 : decode cX12_nextBranch 90 = .ok (.invokestatic 547, 3) := by decide +kernel
theorem dX12_nextBranch_93 : decode cX12_nextBranch 93 = .ok (.iload_n 3, 1) := by decide +kernel
theorem dX12_nextBranch_94 : decode cX12_nextBranch 94 = .ok (.iload 4, 2) := by decide +kernel
theorem dX12_nextBranch_96 : decode cX12_nextBranch 96 = .ok (.invokevirtual 596, 3) := by decide +kernel
theorem dX12_nextBranch_99 : decode cX12_nextBranch 99 = .ok (.ifCond .eq 23, 3) := by decide +kernel
theorem dX12_nextBranch_102 : decode cX12_nextBranch 102 = .ok (.aload_n 0, 1) := by decide +kernel
theorem dX12_nextBranch_103 : decode cX12_nextBranch 103 = .ok (.iload_n 2, 1) := by decide +kernel
theorem dX12_nextBranch_104 : decode cX12_nextBranch 104 = .ok (.iload_n 3, 1) := by decide +kernel
theorem dX12_nextBranch_105 : decode cX12_nextBranch 105 = .ok (.aload_n 0, 1) := by decide +kernel
theorem dX12_nextBranch_106 : decode cX12_nextBranch 106 = .ok (.getfield 203, 3) := by decide +kernel
theorem dX12_nextBranch_109 : decode cX12_nextBranch 109 = .ok (.sipush 2010, 3) := by decide +kernel
theorem dX12_nextBranch_112 : decode cX12_nextBranch 112 = .ok (.iload_n 3, 1) := by decide +kernel
theorem dX12_nextBranch_113 : decode cX12_nextBranch 113 = .ok (.imul, 1) := by decide +kernel
theorem dX12_nextBranch_114 : decode cX12_nextBranch 114 = .ok (.iload 4, 2) := by decide +kernel
theorem dX12_nextBranch_116 : decode cX12_nextBranch 116 = .ok (.iadd, 1) := by decide +kernel
theorem dX12_nextBranch_117 : decode cX12_nextBranch 117 = .ok (.iaload, 1) := by decide +kernel
theorem dX12_nextBranch_118 : decode cX12_nextBranch 118 = .ok (.invokevirtual 568, 3) := by decide +kernel
theorem dX12_nextBranch_121 : decode cX12_nextBranch 121 = .ok (.ireturn, 1) := by decide +kernel
theorem dX12_nextBranch_122 : decode cX12_nextBranch 122 = .ok (.goto (-67), 3) := by decide +kernel
theorem dX12_nextBranch_125 : decode cX12_nextBranch 125 = .ok (.iconst (-1), 1) := by decide +kernel
theorem dX12_nextBranch_126 : decode cX12_nextBranch 126 = .ok (.ireturn, 1) := by decide +kernel
theorem dX12_opensScope_0 : decode cX12_opensScope 0 = .ok (.aload_n 0, 1) := by decide +kernel
theorem dX12_opensScope_1 : decode cX12_opensScope 1 = .ok (.getfield 264, 3) := by decide +kernel
theorem dX12_opensScope_4 : decode cX12_opensScope 4 = .ok (.iload_n 1, 1) := by decide +kernel
theorem dX12_opensScope_5 : decode cX12_opensScope 5 = .ok (.iload_n 2, 1) := by decide +kernel
theorem dX12_opensScope_6 : decode cX12_opensScope 6 = .ok (.iastore, 1) := by decide +kernel
theorem dX12_opensScope_7 : decode cX12_opensScope 7 = .ok (.aload_n 0, 1) := by decide +kernel
theorem dX12_opensScope_8 : decode cX12_opensScope 8 = .ok (.getfield 267, 3) := by decide +kernel
theorem dX12_opensScope_11 : decode cX12_opensScope 11 = .ok (.iload_n 1, 1) := by decide +kernel
theorem dX12_opensScope_12 : decode cX12_opensScope 12 = .ok (.iconst 0, 1) := by decide +kernel
theorem dX12_opensScope_13 : decode cX12_opensScope 13 = .ok (.iastore, 1) := by decide +kernel
theorem dX12_opensScope_14 : decode cX12_opensScope 14 = .ok (.aload_n 0, 1) := by decide +kernel
theorem dX12_opensScope_15 : decode cX12_opensScope 15 = .ok (.getfield 270, 3) := by decide +kernel
theorem dX12_opensScope_18 : decode cX12_opensScope 18 = .ok (.iload_n 1, 1) := by decide +kernel
theorem dX12_opensScope_19 : decode cX12_opensScope 19 = .ok (.aload_n 0, 1) := by decide +kernel
theorem dX12_opensScope_20 : decode cX12_opensScope 20 = .ok (.getfield 276, 3) := by decide +kernel
theorem dX12_opensScope_23 : decode cX12_opensScope 23 = .ok (.iastore, 1) := by decide +kernel
theorem dX12_opensScope_24 : decode cX12_opensScope 24 = .ok (.aload_n 0, 1) := by decide +kernel
theorem dX12_opensScope_25 : decode cX12_opensScope 25 = .ok (.dup, 1) := by decide +kernel
theorem dX12_opensScope_26 : decode cX12_opensScope 26 = .ok (.getfield 276, 3) := by decide +kernel
theorem dX12_opensScope_29 : decode cX12_opensScope 29 = .ok (.iconst 1, 1) := by decide +kernel
theorem dX12_opensScope_30 : decode cX12_opensScope 30 = .ok (.iadd, 1) := by decide +kernel
theorem dX12_opensScope_31 : decode cX12_opensScope 31 = .ok (.putfield 276, 3) := by decide +kernel
theorem dX12_opensScope_34 : decode cX12_opensScope 34 = .ok (.aload_n 0, 1) := by decide +kernel
theorem dX12_opensScope_35 : decode cX12_opensScope 35 = .ok (.iload_n 1, 1) := by decide +kernel
theorem dX12_opensScope_36 : decode cX12_opensScope 36 = .ok (.iconst 1, 1) := by decide +kernel
theorem dX12_opensScope_37 : decode cX12_opensScope 37 = .ok (.iadd, 1) := by decide +kernel
theorem dX12_opensScope_38 : decode cX12_opensScope 38 = .ok (.aload_n 0, 1) := by decide +kernel
theorem dX12_opensScope_39 : decode cX12_opensScope 39 = .ok (.getfield 282, 3) := by decide +kernel
theorem dX12_opensScope_42 : decode cX12_opensScope 42 = .ok (.if_icmp .le 9, 3) := by decide +kernel
theorem dX12_opensScope_45 : decode cX12_opensScope 45 = .ok (.iload_n 1, 1) := by decide +kernel
theorem dX12_opensScope_46 : decode cX12_opensScope 46 = .ok (.iconst 1, 1) := by decide +kernel
theorem dX12_opensScope_47 : decode cX12_opensScope 47 = .ok (.iadd, 1) := by decide +kernel
theorem dX12_opensScope_48 : decode cX12_opensScope 48 = .ok (.goto 7, 3) := by decide +kernel
theorem dX12_opensScope_51 : decode cX12_opensScope 51 = .ok (.aload_n 0, 1) := by decide +kernel
theorem dX12_opensScope_52 : decode cX12_opensScope 52 = .ok (.getfield 282, 3) := by decide +kernel
theorem dX12_opensScope_55 : decode cX12_opensScope 55 = .ok (.putfield 282, 3) := by decide +kernel
theorem dX12_opensScope_58 : decode cX12_opensScope 58 = .ok (.return_, 1) := by decide +kernel
theorem dX12_builds_0 : decode cX12_builds 0 = .ok (.aload_n 0, 1) := by decide +kernel
theorem dX12_builds_1 : decode cX12_builds 1 = .ok (.iconst 0, 1) := by decide +kernel
theorem dX12_builds_2 : decode cX12_builds 2 = .ok (.putfield 276, 3) := by decide +kernel
theorem dX12_builds_5 : decode cX12_builds 5 = .ok (.aload_n 0, 1) := by decide +kernel
theorem dX12_builds_6 : decode cX12_builds 6 = .ok (.iconst 0, 1) := by decide +kernel
theorem dX12_builds_7 : decode cX12_builds 7 = .ok (.putfield 279, 3) := by decide +kernel
theorem dX12_builds_10 : decode cX12_builds 10 = .ok (.aload_n 0, 1) := by decide +kernel
theorem dX12_builds_11 : decode cX12_builds 11 = .ok (.iconst 0, 1) := by decide +kernel
theorem dX12_builds_12 : decode cX12_builds 12 = .ok (.putfield 282, 3) := by decide +kernel
theorem dX12_builds_15 : decode cX12_builds 15 = .ok (.aload_n 0, 1) := by decide +kernel
theorem dX12_builds_16 : decode cX12_builds 16 = .ok (.iconst 0, 1) := by decide +kernel
theorem dX12_builds_17 : decode cX12_builds 17 = .ok (.putfield 285, 3) := by decide +kernel
theorem dX12_builds_20 : decode cX12_builds 20 = .ok (.iconst 0, 1) := by decide +kernel
theorem dX12_builds_21 : decode cX12_builds 21 = .ok (.istore_n 1, 1) := by decide +kernel
theorem dX12_builds_22 : decode cX12_builds 22 = .ok (.aload_n 0, 1) := by decide +kernel
theorem dX12_builds_23 : decode cX12_builds 23 = .ok (.iconst 0, 1) := by decide +kernel
theorem dX12_builds_24 : decode cX12_builds 24 = .ok (.aload_n 0, 1) := by decide +kernel
theorem dX12_builds_25 : decode cX12_builds 25 = .ok (.invokevirtual 562, 3) := by decide +kernel
theorem dX12_builds_28 : decode cX12_builds 28 = .ok (.invokevirtual 599, 3) := by decide +kernel
theorem dX12_builds_31 : decode cX12_builds 31 = .ok (.iload_n 1, 1) := by decide +kernel
theorem dX12_builds_32 : decode cX12_builds 32 = .ok (.ifCond .lt 101, 3) := by decide +kernel
theorem dX12_builds_35 : decode cX12_builds 35 = .ok (.aload_n 0, 1) := by decide +kernel
theorem dX12_builds_36 : decode cX12_builds 36 = .ok (.getfield 285, 3) := by decide +kernel
theorem dX12_builds_39 : decode cX12_builds 39 = .ok (.ifCond .eq 7, 3) := by decide +kernel
theorem dX12_builds_42 : decode cX12_builds 42 = .ok (.iconst (-1), 1) := by decide +kernel
theorem dX12_builds_43 : decode cX12_builds 43 = .ok (.goto 8, 3) := by decide +kernel
theorem dX12_builds_46 : decode cX12_builds 46 = .ok (.aload_n 0, 1) := by decide +kernel
theorem dX12_builds_47 : decode cX12_builds 47 = .ok (.iload_n 1, 1) := by decide +kernel
theorem dX12_builds_48 : decode cX12_builds 48 = .ok (.invokevirtual 602, 3) := by decide +kernel
theorem dX12_builds_51 : decode cX12_builds 51 = .ok (.istore_n 2, 1) := by decide +kernel
theorem dX12_builds_52 : decode cX12_builds 52 = .ok (.iload_n 2, 1) := by decide +kernel
theorem dX12_builds_53 : decode cX12_builds 53 = .ok (.iconst (-1), 1) := by decide +kernel
theorem dX12_builds_54 : decode cX12_builds 54 = .ok (.if_icmp .eq 24, 3) := by decide +kernel
theorem dX12_builds_57 : decode cX12_builds 57 = .ok (.aload_n 0, 1) := by decide +kernel
theorem dX12_builds_58 : decode cX12_builds 58 = .ok (.getfield 276, 3) := by decide +kernel
theorem dX12_builds_61 : decode cX12_builds 61 = .ok (.aload_n 0, 1) := by decide +kernel
theorem dX12_builds_62 : decode cX12_builds 62 = .ok (.getfield 96, 3) := by decide +kernel
theorem dX12_builds_65 : decode cX12_builds 65 = .ok (.aload_n 0, 1) := by decide +kernel
theorem dX12_builds_66 : decode cX12_builds 66 = .ok (.getfield 51, 3) := by decide +kernel
theorem dX12_builds_69 : decode cX12_builds 69 = .ok (.iaload, 1) := by decide +kernel
theorem dX12_builds_70 : decode cX12_builds 70 = .ok (.if_icmp .ne 8, 3) := by decide +kernel
theorem dX12_builds_73 : decode cX12_builds 73 = .ok (.aload_n 0, 1) := by decide +kernel
theorem dX12_builds_74 : decode cX12_builds 74 = .ok (.iconst 1, 1) := by decide +kernel
theorem dX12_builds_75 : decode cX12_builds 75 = .ok (.putfield 285, 3) := by decide +kernel
theorem dX12_builds_78 : decode cX12_builds 78 = .ok (.iload_n 2, 1) := by decide +kernel
theorem dX12_builds_79 : decode cX12_builds 79 = .ok (.iconst (-1), 1) := by decide +kernel
theorem dX12_builds_80 : decode cX12_builds 80 = .ok (.if_icmp .eq 22, 3) := by decide +kernel
theorem dX12_builds_83 : decode cX12_builds 83 = .ok (.aload_n 0, 1) := by decide +kernel
theorem dX12_builds_84 : decode cX12_builds 84 = .ok (.getfield 285, 3) := by decide +kernel
theorem dX12_builds_87 : decode cX12_builds 87 = .ok (.ifCond .ne 15, 3) := by decide +kernel
theorem dX12_builds_90 : decode cX12_builds 90 = .ok (.iinc 1 1, 3) := by decide +kernel
theorem dX12_builds_93 : decode cX12_builds 93 = .ok (.aload_n 0, 1) := by decide +kernel
theorem dX12_builds_94 : decode cX12_builds 94 = .ok (.iload_n 1, 1) := by decide +kernel
theorem dX12_builds_95 : decode cX12_builds 95 = .ok (.iload_n 2, 1) := by decide +kernel
theorem dX12_builds_96 : decode cX12_builds 96 = .ok (.invokevirtual 599, 3) := by decide +kernel
theorem dX12_builds_99 : decode cX12_builds 99 = .ok (.goto (-68), 3) := by decide +kernel
theorem dX12_builds_102 : decode cX12_builds 102 = .ok (.aload_n 0, 1) := by decide +kernel
theorem dX12_builds_103 : decode cX12_builds 103 = .ok (.getfield 273, 3) := by decide +kernel
theorem dX12_builds_106 : decode cX12_builds 106 = .ok (.aload_n 0, 1) := by decide +kernel
theorem dX12_builds_107 : decode cX12_builds 107 = .ok (.getfield 279, 3) := by decide +kernel
theorem dX12_builds_110 : decode cX12_builds 110 = .ok (.aload_n 0, 1) := by decide +kernel
theorem dX12_builds_111 : decode cX12_builds 111 = .ok (.getfield 270, 3) := by decide +kernel
theorem dX12_builds_114 : decode cX12_builds 114 = .ok (.iload_n 1, 1) := by decide +kernel
theorem dX12_builds_115 : decode cX12_builds 115 = .ok (.iaload, 1) := by decide +kernel
theorem dX12_builds_116 : decode cX12_builds 116 = .ok (.iastore, 1) := by decide +kernel
theorem dX12_builds_117 : decode cX12_builds 117 = .ok (.aload_n 0, 1) := by decide +kernel
theorem dX12_builds_118 : decode cX12_builds 118 = .ok (.dup, 1) := by decide +kernel
theorem dX12_builds_119 : decode cX12_builds 119 = .ok (.getfield 279, 3) := by decide +kernel
theorem dX12_builds_122 : decode cX12_builds 122 = .ok (.iconst 1, 1) := by decide +kernel
theorem dX12_builds_123 : decode cX12_builds 123 = .ok (.iadd, 1) := by decide +kernel
theorem dX12_builds_124 : decode cX12_builds 124 = .ok (.putfield 279, 3) := by decide +kernel
theorem dX12_builds_127 : decode cX12_builds 127 = .ok (.iinc 1 (-1), 3) := by decide +kernel
theorem dX12_builds_130 : decode cX12_builds 130 = .ok (.goto (-99), 3) := by decide +kernel
theorem dX12_builds_133 : decode cX12_builds 133 = .ok (.return_, 1) := by decide +kernel
theorem dX12_scopes_0 : decode cX12_scopes 0 = .ok (.aload_n 0, 1) := by decide +kernel
theorem dX12_scopes_1 : decode cX12_scopes 1 = .ok (.getfield 146, 3) := by decide +kernel
theorem dX12_scopes_4 : decode cX12_scopes 4 = .ok (.ifCond .eq 21, 3) := by decide +kernel
theorem dX12_scopes_7 : decode cX12_scopes 7 = .ok (.iload_n 1, 1) := by decide +kernel
theorem dX12_scopes_8 : decode cX12_scopes 8 = .ok (.iconst 0, 1) := by decide +kernel
theorem dX12_scopes_9 : decode cX12_scopes 9 = .ok (.iconst 3, 1) := by decide +kernel
theorem dX12_scopes_10 : decode cX12_scopes 10 = .ok (.invokestatic 362, 3) := by decide +kernel
theorem dX12_scopes_13 : decode cX12_scopes 13 = .ok (.ifCond .eq 12, 3) := by decide +kernel
theorem dX12_scopes_16 : decode cX12_scopes 16 = .ok (.iload_n 2, 1) := by decide +kernel
theorem dX12_scopes_17 : decode cX12_scopes 17 = .ok (.iconst 0, 1) := by decide +kernel
theorem dX12_scopes_18 : decode cX12_scopes 18 = .ok (.iconst 3, 1) := by decide +kernel
theorem dX12_scopes_19 : decode cX12_scopes 19 = .ok (.invokestatic 362, 3) := by decide +kernel
theorem dX12_scopes_22 : decode cX12_scopes 22 = .ok (.ifCond .ne 5, 3) := by decide +kernel
theorem dX12_scopes_25 : decode cX12_scopes 25 = .ok (.iconst (-1), 1) := by decide +kernel
end
section
theorem dX12_scopes_26 : decode cX12_scopes 26 = .ok (.ireturn, 1) := by decide +kernel
theorem dX12_scopes_27 : decode cX12_scopes 27 = .ok (.aload_n 0, 1) := by decide +kernel
theorem dX12_scopes_28 : decode cX12_scopes 28 = .ok (.iconst 0, 1) := by decide +kernel
theorem dX12_scopes_29 : decode cX12_scopes 29 = .ok (.iload_n 1, 1) := by decide +kernel
theorem dX12_scopes_30 : decode cX12_scopes 30 = .ok (.invokevirtual 581, 3) := by decide +kernel
theorem dX12_scopes_33 : decode cX12_scopes 33 = .ok (.aload_n 0, 1) := by decide +kernel
theorem dX12_scopes_34 : decode cX12_scopes 34 = .ok (.invokevirtual 605, 3) := by decide +kernel
theorem dX12_scopes_37 : decode cX12_scopes 37 = .ok (.iload_n 2, 1) := by decide +kernel
theorem dX12_scopes_38 : decode cX12_scopes 38 = .ok (.iconst 3, 1) := by decide +kernel
theorem dX12_scopes_39 : decode cX12_scopes 39 = .ok (.if_icmp .ne 28, 3) := by decide +kernel
theorem dX12_scopes_42 : decode cX12_scopes 42 = .ok (.iload_n 3, 1) := by decide +kernel
theorem dX12_scopes_43 : decode cX12_scopes 43 = .ok (.iconst 0, 1) := by decide +kernel
theorem dX12_scopes_44 : decode cX12_scopes 44 = .ok (.aload_n 0, 1) := by decide +kernel
theorem dX12_scopes_45 : decode cX12_scopes 45 = .ok (.getfield 279, 3) := by decide +kernel
theorem dX12_scopes_48 : decode cX12_scopes 48 = .ok (.iconst 1, 1) := by decide +kernel
theorem dX12_scopes_49 : decode cX12_scopes 49 = .ok (.isub, 1) := by decide +kernel
theorem dX12_scopes_50 : decode cX12_scopes 50 = .ok (.invokestatic 362, 3) := by decide +kernel
theorem dX12_scopes_53 : decode cX12_scopes 53 = .ok (.ifCond .eq 12, 3) := by decide +kernel
theorem dX12_scopes_56 : decode cX12_scopes 56 = .ok (.aload_n 0, 1) := by decide +kernel
theorem dX12_scopes_57 : decode cX12_scopes 57 = .ok (.getfield 273, 3) := by decide +kernel
theorem dX12_scopes_60 : decode cX12_scopes 60 = .ok (.iload_n 3, 1) := by decide +kernel
theorem dX12_scopes_61 : decode cX12_scopes 61 = .ok (.iaload, 1) := by decide +kernel
theorem dX12_scopes_62 : decode cX12_scopes 62 = .ok (.goto 4, 3) := by decide +kernel
theorem dX12_scopes_65 : decode cX12_scopes 65 = .ok (.iconst (-1), 1) := by decide +kernel
theorem dX12_scopes_66 : decode cX12_scopes 66 = .ok (.ireturn, 1) := by decide +kernel
theorem dX12_scopes_67 : decode cX12_scopes 67 = .ok (.iload_n 2, 1) := by decide +kernel
theorem dX12_scopes_68 : decode cX12_scopes 68 = .ok (.ifCond .ne 10, 3) := by decide +kernel
theorem dX12_scopes_71 : decode cX12_scopes 71 = .ok (.aload_n 0, 1) := by decide +kernel
theorem dX12_scopes_72 : decode cX12_scopes 72 = .ok (.getfield 276, 3) := by decide +kernel
theorem dX12_scopes_75 : decode cX12_scopes 75 = .ok (.goto 27, 3) := by decide +kernel
theorem dX12_scopes_78 : decode cX12_scopes 78 = .ok (.iload_n 2, 1) := by decide +kernel
theorem dX12_scopes_79 : decode cX12_scopes 79 = .ok (.iconst 1, 1) := by decide +kernel
theorem dX12_scopes_80 : decode cX12_scopes 80 = .ok (.if_icmp .ne 10, 3) := by decide +kernel
theorem dX12_scopes_83 : decode cX12_scopes 83 = .ok (.aload_n 0, 1) := by decide +kernel
theorem dX12_scopes_84 : decode cX12_scopes 84 = .ok (.getfield 282, 3) := by decide +kernel
theorem dX12_scopes_87 : decode cX12_scopes 87 = .ok (.goto 15, 3) := by decide +kernel
theorem dX12_scopes_90 : decode cX12_scopes 90 = .ok (.aload_n 0, 1) := by decide +kernel
theorem dX12_scopes_91 : decode cX12_scopes 91 = .ok (.getfield 285, 3) := by decide +kernel
theorem dX12_scopes_94 : decode cX12_scopes 94 = .ok (.ifCond .eq 7, 3) := by decide +kernel
theorem dX12_scopes_97 : decode cX12_scopes 97 = .ok (.iconst 1, 1) := by decide +kernel
theorem dX12_scopes_98 : decode cX12_scopes 98 = .ok (.goto 4, 3) := by decide +kernel
theorem dX12_scopes_101 : decode cX12_scopes 101 = .ok (.iconst 0, 1) := by decide +kernel
theorem dX12_scopes_102 : decode cX12_scopes 102 = .ok (.ireturn, 1) := by decide +kernel
theorem dX12_swapped_0 : decode cX12_swapped 0 = .ok (.iload_n 0, 1) := by decide +kernel
theorem dX12_swapped_1 : decode cX12_swapped 1 = .ok (.iload_n 1, 1) := by decide +kernel
theorem dX12_swapped_2 : decode cX12_swapped 2 = .ok (.ishr, 1) := by decide +kernel
theorem dX12_swapped_3 : decode cX12_swapped 3 = .ok (.iconst 1, 1) := by decide +kernel
theorem dX12_swapped_4 : decode cX12_swapped 4 = .ok (.iand, 1) := by decide +kernel
theorem dX12_swapped_5 : decode cX12_swapped 5 = .ok (.iload_n 0, 1) := by decide +kernel
theorem dX12_swapped_6 : decode cX12_swapped 6 = .ok (.iload_n 2, 1) := by decide +kernel
theorem dX12_swapped_7 : decode cX12_swapped 7 = .ok (.ishr, 1) := by decide +kernel
theorem dX12_swapped_8 : decode cX12_swapped 8 = .ok (.iconst 1, 1) := by decide +kernel
theorem dX12_swapped_9 : decode cX12_swapped 9 = .ok (.iand, 1) := by decide +kernel
theorem dX12_swapped_10 : decode cX12_swapped 10 = .ok (.if_icmp .ne 5, 3) := by decide +kernel
theorem dX12_swapped_13 : decode cX12_swapped 13 = .ok (.iload_n 0, 1) := by decide +kernel
theorem dX12_swapped_14 : decode cX12_swapped 14 = .ok (.ireturn, 1) := by decide +kernel
theorem dX12_swapped_15 : decode cX12_swapped 15 = .ok (.iload_n 0, 1) := by decide +kernel
theorem dX12_swapped_16 : decode cX12_swapped 16 = .ok (.iconst 1, 1) := by decide +kernel
theorem dX12_swapped_17 : decode cX12_swapped 17 = .ok (.iload_n 1, 1) := by decide +kernel
theorem dX12_swapped_18 : decode cX12_swapped 18 = .ok (.ishl, 1) := by decide +kernel
theorem dX12_swapped_19 : decode cX12_swapped 19 = .ok (.iconst 1, 1) := by decide +kernel
theorem dX12_swapped_20 : decode cX12_swapped 20 = .ok (.iload_n 2, 1) := by decide +kernel
theorem dX12_swapped_21 : decode cX12_swapped 21 = .ok (.ishl, 1) := by decide +kernel
theorem dX12_swapped_22 : decode cX12_swapped 22 = .ok (.ior, 1) := by decide +kernel
theorem dX12_swapped_23 : decode cX12_swapped 23 = .ok (.ixor, 1) := by decide +kernel
theorem dX12_swapped_24 : decode cX12_swapped 24 = .ok (.ireturn, 1) := by decide +kernel
theorem dX12_moved_0 : decode cX12_moved 0 = .ok (.iload_n 0, 1) := by decide +kernel
theorem dX12_moved_1 : decode cX12_moved 1 = .ok (.iload_n 1, 1) := by decide +kernel
theorem dX12_moved_2 : decode cX12_moved 2 = .ok (.if_icmp .ne 7, 3) := by decide +kernel
theorem dX12_moved_5 : decode cX12_moved 5 = .ok (.iload_n 2, 1) := by decide +kernel
theorem dX12_moved_6 : decode cX12_moved 6 = .ok (.goto 13, 3) := by decide +kernel
theorem dX12_moved_9 : decode cX12_moved 9 = .ok (.iload_n 0, 1) := by decide +kernel
theorem dX12_moved_10 : decode cX12_moved 10 = .ok (.iload_n 2, 1) := by decide +kernel
theorem dX12_moved_11 : decode cX12_moved 11 = .ok (.if_icmp .ne 7, 3) := by decide +kernel
theorem dX12_moved_14 : decode cX12_moved 14 = .ok (.iload_n 1, 1) := by decide +kernel
theorem dX12_moved_15 : decode cX12_moved 15 = .ok (.goto 4, 3) := by decide +kernel
theorem dX12_moved_18 : decode cX12_moved 18 = .ok (.iload_n 0, 1) := by decide +kernel
theorem dX12_moved_19 : decode cX12_moved 19 = .ok (.ireturn, 1) := by decide +kernel
theorem dX12_isSafe_0 : decode cX12_isSafe 0 = .ok (.iconst 0, 1) := by decide +kernel
theorem dX12_isSafe_1 : decode cX12_isSafe 1 = .ok (.istore_n 3, 1) := by decide +kernel
theorem dX12_isSafe_2 : decode cX12_isSafe 2 = .ok (.iload_n 3, 1) := by decide +kernel
theorem dX12_isSafe_3 : decode cX12_isSafe 3 = .ok (.sipush 256, 3) := by decide +kernel
theorem dX12_isSafe_6 : decode cX12_isSafe 6 = .ok (.if_icmp .ge 95, 3) := by decide +kernel
theorem dX12_isSafe_9 : decode cX12_isSafe 9 = .ok (.aload_n 0, 1) := by decide +kernel
theorem dX12_isSafe_10 : decode cX12_isSafe 10 = .ok (.iload_n 3, 1) := by decide +kernel
theorem dX12_isSafe_11 : decode cX12_isSafe 11 = .ok (.invokevirtual 492, 3) := by decide +kernel
theorem dX12_isSafe_14 : decode cX12_isSafe 14 = .ok (.istore 4, 2) := by decide +kernel
theorem dX12_isSafe_16 : decode cX12_isSafe 16 = .ok (.iconst 0, 1) := by decide +kernel
theorem dX12_isSafe_17 : decode cX12_isSafe 17 = .ok (.istore 5, 2) := by decide +kernel
theorem dX12_isSafe_19 : decode cX12_isSafe 19 = .ok (.iload 5, 2) := by decide +kernel
theorem dX12_isSafe_21 : decode cX12_isSafe 21 = .ok (.sipush 4096, 3) := by decide +kernel
theorem dX12_isSafe_24 : decode cX12_isSafe 24 = .ok (.if_icmp .ge 71, 3) := by decide +kernel
theorem dX12_isSafe_27 : decode cX12_isSafe 27 = .ok (.aload_n 0, 1) := by decide +kernel
theorem dX12_isSafe_28 : decode cX12_isSafe 28 = .ok (.getfield 218, 3) := by decide +kernel
theorem dX12_isSafe_31 : decode cX12_isSafe 31 = .ok (.iload 5, 2) := by decide +kernel
theorem dX12_isSafe_33 : decode cX12_isSafe 33 = .ok (.iaload, 1) := by decide +kernel
theorem dX12_isSafe_34 : decode cX12_isSafe 34 = .ok (.ifCond .ne 6, 3) := by decide +kernel
theorem dX12_isSafe_37 : decode cX12_isSafe 37 = .ok (.goto 52, 3) := by decide +kernel
theorem dX12_isSafe_40 : decode cX12_isSafe 40 = .ok (.iload 5, 2) := by decide +kernel
theorem dX12_isSafe_42 : decode cX12_isSafe 42 = .ok (.iload 4, 2) := by decide +kernel
theorem dX12_isSafe_44 : decode cX12_isSafe 44 = .ok (.iand, 1) := by decide +kernel
theorem dX12_isSafe_45 : decode cX12_isSafe 45 = .ok (.invokestatic 495, 3) := by decide +kernel
theorem dX12_isSafe_48 : decode cX12_isSafe 48 = .ok (.istore 6, 2) := by decide +kernel
theorem dX12_isSafe_50 : decode cX12_isSafe 50 = .ok (.iload 5, 2) := by decide +kernel
theorem dX12_isSafe_52 : decode cX12_isSafe 52 = .ok (.iload 4, 2) := by decide +kernel
theorem dX12_isSafe_54 : decode cX12_isSafe 54 = .ok (.iand, 1) := by decide +kernel
theorem dX12_isSafe_55 : decode cX12_isSafe 55 = .ok (.iload_n 1, 1) := by decide +kernel
theorem dX12_isSafe_56 : decode cX12_isSafe 56 = .ok (.iload_n 2, 1) := by decide +kernel
theorem dX12_isSafe_57 : decode cX12_isSafe 57 = .ok (.invokestatic 608, 3) := by decide +kernel
theorem dX12_isSafe_60 : decode cX12_isSafe 60 = .ok (.invokestatic 495, 3) := by decide +kernel
theorem dX12_isSafe_63 : decode cX12_isSafe 63 = .ok (.istore 7, 2) := by decide +kernel
theorem dX12_isSafe_65 : decode cX12_isSafe 65 = .ok (.iload 6, 2) := by decide +kernel
theorem dX12_isSafe_67 : decode cX12_isSafe 67 = .ok (.iload 7, 2) := by decide +kernel
theorem dX12_isSafe_69 : decode cX12_isSafe 69 = .ok (.iconst (-1), 1) := by decide +kernel
theorem dX12_isSafe_70 : decode cX12_isSafe 70 = .ok (.if_icmp .ne 7, 3) := by decide +kernel
theorem dX12_isSafe_73 : decode cX12_isSafe 73 = .ok (.iconst (-1), 1) := by decide +kernel
theorem dX12_isSafe_74 : decode cX12_isSafe 74 = .ok (.goto 10, 3) := by decide +kernel
theorem dX12_isSafe_77 : decode cX12_isSafe 77 = .ok (.iload 7, 2) := by decide +kernel
theorem dX12_isSafe_79 : decode cX12_isSafe 79 = .ok (.iload_n 1, 1) := by decide +kernel
theorem dX12_isSafe_80 : decode cX12_isSafe 80 = .ok (.iload_n 2, 1) := by decide +kernel
theorem dX12_isSafe_81 : decode cX12_isSafe 81 = .ok (.invokestatic 611, 3) := by decide +kernel
theorem dX12_isSafe_84 : decode cX12_isSafe 84 = .ok (.if_icmp .eq 5, 3) := by decide +kernel
theorem dX12_isSafe_87 : decode cX12_isSafe 87 = .ok (.iconst 0, 1) := by decide +kernel
theorem dX12_isSafe_88 : decode cX12_isSafe 88 = .ok (.ireturn, 1) := by decide +kernel
theorem dX12_isSafe_89 : decode cX12_isSafe 89 = .ok (.iinc 5 1, 3) := by decide +kernel
theorem dX12_isSafe_92 : decode cX12_isSafe 92 = .ok (.goto (-73), 3) := by decide +kernel
theorem dX12_isSafe_95 : decode cX12_isSafe 95 = .ok (.iinc 3 1, 3) := by decide +kernel
theorem dX12_isSafe_98 : decode cX12_isSafe 98 = .ok (.goto (-96), 3) := by decide +kernel
theorem dX12_isSafe_101 : decode cX12_isSafe 101 = .ok (.iconst 1, 1) := by decide +kernel
theorem dX12_isSafe_102 : decode cX12_isSafe 102 = .ok (.ireturn, 1) := by decide +kernel
theorem dX12_safe_0 : decode cX12_safe 0 = .ok (.aload_n 0, 1) := by decide +kernel
theorem dX12_safe_1 : decode cX12_safe 1 = .ok (.iload_n 1, 1) := by decide +kernel
theorem dX12_safe_2 : decode cX12_safe 2 = .ok (.invokevirtual 498, 3) := by decide +kernel
theorem dX12_safe_5 : decode cX12_safe 5 = .ok (.ifCond .eq 11, 3) := by decide +kernel
theorem dX12_safe_8 : decode cX12_safe 8 = .ok (.aload_n 0, 1) := by decide +kernel
theorem dX12_safe_9 : decode cX12_safe 9 = .ok (.iload_n 2, 1) := by decide +kernel
theorem dX12_safe_10 : decode cX12_safe 10 = .ok (.invokevirtual 498, 3) := by decide +kernel
theorem dX12_safe_13 : decode cX12_safe 13 = .ok (.ifCond .ne 5, 3) := by decide +kernel
theorem dX12_safe_16 : decode cX12_safe 16 = .ok (.iconst (-1), 1) := by decide +kernel
theorem dX12_safe_17 : decode cX12_safe 17 = .ok (.ireturn, 1) := by decide +kernel
theorem dX12_safe_18 : decode cX12_safe 18 = .ok (.aload_n 0, 1) := by decide +kernel
theorem dX12_safe_19 : decode cX12_safe 19 = .ok (.iconst 0, 1) := by decide +kernel
theorem dX12_safe_20 : decode cX12_safe 20 = .ok (.invokevirtual 501, 3) := by decide +kernel
theorem dX12_safe_23 : decode cX12_safe 23 = .ok (.aload_n 0, 1) := by decide +kernel
theorem dX12_safe_24 : decode cX12_safe 24 = .ok (.invokevirtual 504, 3) := by decide +kernel
theorem dX12_safe_27 : decode cX12_safe 27 = .ok (.aload_n 0, 1) := by decide +kernel
theorem dX12_safe_28 : decode cX12_safe 28 = .ok (.iload_n 1, 1) := by decide +kernel
theorem dX12_safe_29 : decode cX12_safe 29 = .ok (.iload_n 2, 1) := by decide +kernel
theorem dX12_safe_30 : decode cX12_safe 30 = .ok (.invokevirtual 614, 3) := by decide +kernel
theorem dX12_safe_33 : decode cX12_safe 33 = .ok (.ifCond .eq 7, 3) := by decide +kernel
theorem dX12_safe_36 : decode cX12_safe 36 = .ok (.iconst 1, 1) := by decide +kernel
theorem dX12_safe_37 : decode cX12_safe 37 = .ok (.goto 4, 3) := by decide +kernel
theorem dX12_safe_40 : decode cX12_safe 40 = .ok (.iconst 0, 1) := by decide +kernel
theorem dX12_safe_41 : decode cX12_safe 41 = .ok (.ireturn, 1) := by decide +kernel
theorem dX12_exchanges_0 : decode cX12_exchanges 0 = .ok (.aload_n 0, 1) := by decide +kernel
theorem dX12_exchanges_1 : decode cX12_exchanges 1 = .ok (.getfield 176, 3) := by decide +kernel
theorem dX12_exchanges_4 : decode cX12_exchanges 4 = .ok (.bipush 12, 2) := by decide +kernel
theorem dX12_exchanges_6 : decode cX12_exchanges 6 = .ok (.iload_n 1, 1) := by decide +kernel
theorem dX12_exchanges_7 : decode cX12_exchanges 7 = .ok (.imul, 1) := by decide +kernel
theorem dX12_exchanges_8 : decode cX12_exchanges 8 = .ok (.iload_n 2, 1) := by decide +kernel
theorem dX12_exchanges_9 : decode cX12_exchanges 9 = .ok (.iadd, 1) := by decide +kernel
theorem dX12_exchanges_10 : decode cX12_exchanges 10 = .ok (.iaload, 1) := by decide +kernel
theorem dX12_exchanges_11 : decode cX12_exchanges 11 = .ok (.istore 4, 2) := by decide +kernel
theorem dX12_exchanges_13 : decode cX12_exchanges 13 = .ok (.aload_n 0, 1) := by decide +kernel
theorem dX12_exchanges_14 : decode cX12_exchanges 14 = .ok (.getfield 176, 3) := by decide +kernel
theorem dX12_exchanges_17 : decode cX12_exchanges 17 = .ok (.bipush 12, 2) := by decide +kernel
theorem dX12_exchanges_19 : decode cX12_exchanges 19 = .ok (.iload_n 1, 1) := by decide +kernel
theorem dX12_exchanges_20 : decode cX12_exchanges 20 = .ok (.imul, 1) := by decide +kernel
theorem dX12_exchanges_21 : decode cX12_exchanges 21 = .ok (.iload_n 2, 1) := by decide +kernel
theorem dX12_exchanges_22 : decode cX12_exchanges 22 = .ok (.iadd, 1) := by decide +kernel
theorem dX12_exchanges_23 : decode cX12_exchanges 23 = .ok (.aload_n 0, 1) := by decide +kernel
theorem dX12_exchanges_24 : decode cX12_exchanges 24 = .ok (.getfield 176, 3) := by decide +kernel
theorem dX12_exchanges_27 : decode cX12_exchanges 27 = .ok (.bipush 12, 2) := by decide +kernel
theorem dX12_exchanges_29 : decode cX12_exchanges 29 = .ok (.iload_n 1, 1) := by decide +kernel
theorem dX12_exchanges_30 : decode cX12_exchanges 30 = .ok (.imul, 1) := by decide +kernel
theorem dX12_exchanges_31 : decode cX12_exchanges 31 = .ok (.iload_n 3, 1) := by decide +kernel
theorem dX12_exchanges_32 : decode cX12_exchanges 32 = .ok (.iadd, 1) := by decide +kernel
theorem dX12_exchanges_33 : decode cX12_exchanges 33 = .ok (.iaload, 1) := by decide +kernel
theorem dX12_exchanges_34 : decode cX12_exchanges 34 = .ok (.iastore, 1) := by decide +kernel
theorem dX12_exchanges_35 : decode cX12_exchanges 35 = .ok (.aload_n 0, 1) := by decide +kernel
theorem dX12_exchanges_36 : decode cX12_exchanges 36 = .ok (.getfield 176, 3) := by decide +kernel
theorem dX12_exchanges_39 : decode cX12_exchanges 39 = .ok (.bipush 12, 2) := by decide +kernel
theorem dX12_exchanges_41 : decode cX12_exchanges 41 = .ok (.iload_n 1, 1) := by decide +kernel
theorem dX12_exchanges_42 : decode cX12_exchanges 42 = .ok (.imul, 1) := by decide +kernel
theorem dX12_exchanges_43 : decode cX12_exchanges 43 = .ok (.iload_n 3, 1) := by decide +kernel
theorem dX12_exchanges_44 : decode cX12_exchanges 44 = .ok (.iadd, 1) := by decide +kernel
theorem dX12_exchanges_45 : decode cX12_exchanges 45 = .ok (.iload 4, 2) := by decide +kernel
theorem dX12_exchanges_47 : decode cX12_exchanges 47 = .ok (.iastore, 1) := by decide +kernel
theorem dX12_exchanges_48 : decode cX12_exchanges 48 = .ok (.return_, 1) := by decide +kernel
theorem dX12_best_0 : decode cX12_best 0 = .ok (.aload_n 0, 1) := by decide +kernel
theorem dX12_best_1 : decode cX12_best 1 = .ok (.getfield 146, 3) := by decide +kernel
theorem dX12_best_4 : decode cX12_best 4 = .ok (.ifCond .eq 12, 3) := by decide +kernel
theorem dX12_best_7 : decode cX12_best 7 = .ok (.iload_n 1, 1) := by decide +kernel
theorem dX12_best_8 : decode cX12_best 8 = .ok (.iconst 0, 1) := by decide +kernel
theorem dX12_best_9 : decode cX12_best 9 = .ok (.iconst 1, 1) := by decide +kernel
theorem dX12_best_10 : decode cX12_best 10 = .ok (.invokestatic 362, 3) := by decide +kernel
theorem dX12_best_13 : decode cX12_best 13 = .ok (.ifCond .ne 5, 3) := by decide +kernel
theorem dX12_best_16 : decode cX12_best 16 = .ok (.iconst (-1), 1) := by decide +kernel
theorem dX12_best_17 : decode cX12_best 17 = .ok (.ireturn, 1) := by decide +kernel
theorem dX12_best_18 : decode cX12_best 18 = .ok (.aload_n 0, 1) := by decide +kernel
theorem dX12_best_19 : decode cX12_best 19 = .ok (.iconst 0, 1) := by decide +kernel
theorem dX12_best_20 : decode cX12_best 20 = .ok (.invokevirtual 501, 3) := by decide +kernel
theorem dX12_best_23 : decode cX12_best 23 = .ok (.aload_n 0, 1) := by decide +kernel
theorem dX12_best_24 : decode cX12_best 24 = .ok (.invokevirtual 504, 3) := by decide +kernel
theorem dX12_best_27 : decode cX12_best 27 = .ok (.iconst 0, 1) := by decide +kernel
theorem dX12_best_28 : decode cX12_best 28 = .ok (.istore_n 2, 1) := by decide +kernel
theorem dX12_best_29 : decode cX12_best 29 = .ok (.iload_n 2, 1) := by decide +kernel
theorem dX12_best_30 : decode cX12_best 30 = .ok (.iconst 1, 1) := by decide +kernel
theorem dX12_best_31 : decode cX12_best 31 = .ok (.iadd, 1) := by decide +kernel
theorem dX12_best_32 : decode cX12_best 32 = .ok (.aload_n 0, 1) := by decide +kernel
theorem dX12_best_33 : decode cX12_best 33 = .ok (.getfield 173, 3) := by decide +kernel
theorem dX12_best_36 : decode cX12_best 36 = .ok (.iconst 0, 1) := by decide +kernel
theorem dX12_best_37 : decode cX12_best 37 = .ok (.iaload, 1) := by decide +kernel
theorem dX12_best_38 : decode cX12_best 38 = .ok (.if_icmp .ge 31, 3) := by decide +kernel
theorem dX12_best_41 : decode cX12_best 41 = .ok (.aload_n 0, 1) := by decide +kernel
theorem dX12_best_42 : decode cX12_best 42 = .ok (.getfield 288, 3) := by decide +kernel
theorem dX12_best_45 : decode cX12_best 45 = .ok (.iload_n 2, 1) := by decide +kernel
theorem dX12_best_46 : decode cX12_best 46 = .ok (.aload_n 0, 1) := by decide +kernel
theorem dX12_best_47 : decode cX12_best 47 = .ok (.iload_n 2, 1) := by decide +kernel
theorem dX12_best_48 : decode cX12_best 48 = .ok (.iload_n 2, 1) := by decide +kernel
theorem dX12_best_49 : decode cX12_best 49 = .ok (.iconst 1, 1) := by decide +kernel
theorem dX12_best_50 : decode cX12_best 50 = .ok (.iadd, 1) := by decide +kernel
theorem dX12_best_51 : decode cX12_best 51 = .ok (.invokevirtual 614, 3) := by decide +kernel
theorem dX12_best_54 : decode cX12_best 54 = .ok (.ifCond .eq 7, 3) := by decide +kernel
theorem dX12_best_57 : decode cX12_best 57 = .ok (.iconst 1, 1) := by decide +kernel
theorem dX12_best_58 : decode cX12_best 58 = .ok (.goto 4, 3) := by decide +kernel
theorem dX12_best_61 : decode cX12_best 61 = .ok (.iconst 0, 1) := by decide +kernel
theorem dX12_best_62 : decode cX12_best 62 = .ok (.iastore, 1) := by decide +kernel
theorem dX12_best_63 : decode cX12_best 63 = .ok (.iinc 2 1, 3) := by decide +kernel
theorem dX12_best_66 : decode cX12_best 66 = .ok (.goto (-37), 3) := by decide +kernel
theorem dX12_best_69 : decode cX12_best 69 = .ok (.aload_n 0, 1) := by decide +kernel
theorem dX12_best_70 : decode cX12_best 70 = .ok (.iconst 0, 1) := by decide +kernel
theorem dX12_best_71 : decode cX12_best 71 = .ok (.aload_n 0, 1) := by decide +kernel
theorem dX12_best_72 : decode cX12_best 72 = .ok (.getfield 182, 3) := by decide +kernel
theorem dX12_best_75 : decode cX12_best 75 = .ok (.iconst 0, 1) := by decide +kernel
theorem dX12_best_76 : decode cX12_best 76 = .ok (.iaload, 1) := by decide +kernel
theorem dX12_best_77 : decode cX12_best 77 = .ok (.invokevirtual 581, 3) := by decide +kernel
theorem dX12_best_80 : decode cX12_best 80 = .ok (.aload_n 0, 1) := by decide +kernel
theorem dX12_best_81 : decode cX12_best 81 = .ok (.iconst 0, 1) := by decide +kernel
theorem dX12_best_82 : decode cX12_best 82 = .ok (.invokevirtual 584, 3) := by decide +kernel
theorem dX12_best_85 : decode cX12_best 85 = .ok (.istore_n 2, 1) := by decide +kernel
theorem dX12_best_86 : decode cX12_best 86 = .ok (.iconst (-1), 1) := by decide +kernel
theorem dX12_best_87 : decode cX12_best 87 = .ok (.istore_n 3, 1) := by decide +kernel
theorem dX12_best_88 : decode cX12_best 88 = .ok (.iconst 0, 1) := by decide +kernel
theorem dX12_best_89 : decode cX12_best 89 = .ok (.istore 4, 2) := by decide +kernel
theorem dX12_best_91 : decode cX12_best 91 = .ok (.iload 4, 2) := by decide +kernel
theorem dX12_best_93 : decode cX12_best 93 = .ok (.iconst 1, 1) := by decide +kernel
theorem dX12_best_94 : decode cX12_best 94 = .ok (.iadd, 1) := by decide +kernel
theorem dX12_best_95 : decode cX12_best 95 = .ok (.aload_n 0, 1) := by decide +kernel
theorem dX12_best_96 : decode cX12_best 96 = .ok (.getfield 173, 3) := by decide +kernel
theorem dX12_best_99 : decode cX12_best 99 = .ok (.iconst 0, 1) := by decide +kernel
theorem dX12_best_100 : decode cX12_best 100 = .ok (.iaload, 1) := by decide +kernel
theorem dX12_best_101 : decode cX12_best 101 = .ok (.if_icmp .ge 72, 3) := by decide +kernel
theorem dX12_best_104 : decode cX12_best 104 = .ok (.aload_n 0, 1) := by decide +kernel
theorem dX12_best_105 : decode cX12_best 105 = .ok (.getfield 288, 3) := by decide +kernel
theorem dX12_best_108 : decode cX12_best 108 = .ok (.iload 4, 2) := by decide +kernel
theorem dX12_best_110 : decode cX12_best 110 = .ok (.iaload, 1) := by decide +kernel
theorem dX12_best_111 : decode cX12_best 111 = .ok (.ifCond .ne 6, 3) := by decide +kernel
theorem dX12_best_114 : decode cX12_best 114 = .ok (.goto 53, 3) := by decide +kernel
theorem dX12_best_117 : decode cX12_best 117 = .ok (.aload_n 0, 1) := by decide +kernel
theorem dX12_best_118 : decode cX12_best 118 = .ok (.iconst 1, 1) := by decide +kernel
theorem dX12_best_119 : decode cX12_best 119 = .ok (.iconst 0, 1) := by decide +kernel
theorem dX12_best_120 : decode cX12_best 120 = .ok (.invokevirtual 472, 3) := by decide +kernel
theorem dX12_best_123 : decode cX12_best 123 = .ok (.aload_n 0, 1) := by decide +kernel
theorem dX12_best_124 : decode cX12_best 124 = .ok (.iconst 1, 1) := by decide +kernel
theorem dX12_best_125 : decode cX12_best 125 = .ok (.iload 4, 2) := by decide +kernel
theorem dX12_best_127 : decode cX12_best 127 = .ok (.iload 4, 2) := by decide +kernel
theorem dX12_best_129 : decode cX12_best 129 = .ok (.iconst 1, 1) := by decide +kernel
theorem dX12_best_130 : decode cX12_best 130 = .ok (.iadd, 1) := by decide +kernel
theorem dX12_best_131 : decode cX12_best 131 = .ok (.invokevirtual 618, 3) := by decide +kernel
theorem dX12_best_134 : decode cX12_best 134 = .ok (.aload_n 0, 1) := by decide +kernel
theorem dX12_best_135 : decode cX12_best 135 = .ok (.iconst 1, 1) := by decide +kernel
theorem dX12_best_136 : decode cX12_best 136 = .ok (.aload_n 0, 1) := by decide +kernel
theorem dX12_best_137 : decode cX12_best 137 = .ok (.getfield 182, 3) := by decide +kernel
theorem dX12_best_140 : decode cX12_best 140 = .ok (.iconst 1, 1) := by decide +kernel
theorem dX12_best_141 : decode cX12_best 141 = .ok (.iaload, 1) := by decide +kernel
theorem dX12_best_142 : decode cX12_best 142 = .ok (.invokevirtual 581, 3) := by decide +kernel
theorem dX12_best_145 : decode cX12_best 145 = .ok (.aload_n 0, 1) := by decide +kernel
theorem dX12_best_146 : decode cX12_best 146 = .ok (.iconst 1, 1) := by decide +kernel
theorem dX12_best_147 : decode cX12_best 147 = .ok (.invokevirtual 584, 3) := by decide +kernel
theorem dX12_best_150 : decode cX12_best 150 = .ok (.istore 5, 2) := by decide +kernel
theorem dX12_best_152 : decode cX12_best 152 = .ok (.iload 5, 2) := by decide +kernel
theorem dX12_best_154 : decode cX12_best 154 = .ok (.iload_n 2, 1) := by decide +kernel
theorem dX12_best_155 : decode cX12_best 155 = .ok (.if_icmp .lt 6, 3) := by decide +kernel
theorem dX12_best_158 : decode cX12_best 158 = .ok (.goto 9, 3) := by decide +kernel
theorem dX12_best_161 : decode cX12_best 161 = .ok (.iload 5, 2) := by decide +kernel
theorem dX12_best_163 : decode cX12_best 163 = .ok (.istore_n 2, 1) := by decide +kernel
theorem dX12_best_164 : decode cX12_best 164 = .ok (.iload 4, 2) := by decide +kernel
theorem dX12_best_166 : decode cX12_best 166 = .ok (.istore_n 3, 1) := by decide +kernel
theorem dX12_best_167 : decode cX12_best 167 = .ok (.iinc 4 1, 3) := by decide +kernel
theorem dX12_best_170 : decode cX12_best 170 = .ok (.goto (-79), 3) := by decide +kernel
theorem dX12_best_173 : decode cX12_best 173 = .ok (.iload_n 1, 1) := by decide +kernel
theorem dX12_best_174 : decode cX12_best 174 = .ok (.ifCond .ne 7, 3) := by decide +kernel
theorem dX12_best_177 : decode cX12_best 177 = .ok (.iload_n 3, 1) := by decide +kernel
theorem dX12_best_178 : decode cX12_best 178 = .ok (.goto 4, 3) := by decide +kernel
theorem dX12_best_181 : decode cX12_best 181 = .ok (.iload_n 2, 1) := by decide +kernel
theorem dX12_best_182 : decode cX12_best 182 = .ok (.ireturn, 1) := by decide +kernel
theorem dX12_see_0 : decode cX12_see 0 = .ok (.aload_n 0, 1) := by decide +kernel
theorem dX12_see_1 : decode cX12_see 1 = .ok (.getfield 13, 3) := by decide +kernel
theorem dX12_see_4 : decode cX12_see 4 = .ok (.istore_n 1, 1) := by decide +kernel
theorem dX12_see_5 : decode cX12_see 5 = .ok (.aload_n 0, 1) := by decide +kernel
theorem dX12_see_6 : decode cX12_see 6 = .ok (.iconst 0, 1) := by decide +kernel
theorem dX12_see_7 : decode cX12_see 7 = .ok (.putfield 13, 3) := by decide +kernel
theorem dX12_see_10 : decode cX12_see 10 = .ok (.aload_n 0, 1) := by decide +kernel
theorem dX12_see_11 : decode cX12_see 11 = .ok (.getfield 146, 3) := by decide +kernel
theorem dX12_see_14 : decode cX12_see 14 = .ok (.ifCond .eq 23, 3) := by decide +kernel
theorem dX12_see_17 : decode cX12_see 17 = .ok (.iload_n 1, 1) := by decide +kernel
theorem dX12_see_18 : decode cX12_see 18 = .ok (.ifCond .le 19, 3) := by decide +kernel
theorem dX12_see_21 : decode cX12_see 21 = .ok (.iload_n 1, 1) := by decide +kernel
theorem dX12_see_22 : decode cX12_see 22 = .ok (.iconst 3, 1) := by decide +kernel
theorem dX12_see_23 : decode cX12_see 23 = .ok (.irem, 1) := by decide +kernel
theorem dX12_see_24 : decode cX12_see 24 = .ok (.ifCond .ne 13, 3) := by decide +kernel
theorem dX12_see_27 : decode cX12_see 27 = .ok (.iload_n 1, 1) := by decide +kernel
theorem dX12_see_28 : decode cX12_see 28 = .ok (.bipush 48, 2) := by decide +kernel
theorem dX12_see_30 : decode cX12_see 30 = .ok (.if_icmp .gt 7, 3) := by decide +kernel
theorem dX12_see_33 : decode cX12_see 33 = .ok (.iconst 1, 1) := by decide +kernel
theorem dX12_see_34 : decode cX12_see 34 = .ok (.goto 4, 3) := by decide +kernel
theorem dX12_see_37 : decode cX12_see 37 = .ok (.iconst 0, 1) := by decide +kernel
theorem dX12_see_38 : decode cX12_see 38 = .ok (.istore_n 2, 1) := by decide +kernel
theorem dX12_see_39 : decode cX12_see 39 = .ok (.iconst 0, 1) := by decide +kernel
theorem dX12_see_40 : decode cX12_see 40 = .ok (.istore_n 3, 1) := by decide +kernel
theorem dX12_see_41 : decode cX12_see 41 = .ok (.iload_n 3, 1) := by decide +kernel
theorem dX12_see_42 : decode cX12_see 42 = .ok (.iload_n 1, 1) := by decide +kernel
theorem dX12_see_43 : decode cX12_see 43 = .ok (.if_icmp .ge 75, 3) := by decide +kernel
theorem dX12_see_46 : decode cX12_see 46 = .ok (.iload_n 2, 1) := by decide +kernel
theorem dX12_see_47 : decode cX12_see 47 = .ok (.ifCond .eq 71, 3) := by decide +kernel
theorem dX12_see_50 : decode cX12_see 50 = .ok (.aload_n 0, 1) := by decide +kernel
theorem dX12_see_51 : decode cX12_see 51 = .ok (.getfield 7, 3) := by decide +kernel
theorem dX12_see_54 : decode cX12_see 54 = .ok (.iload_n 3, 1) := by decide +kernel
theorem dX12_see_55 : decode cX12_see 55 = .ok (.iaload, 1) := by decide +kernel
theorem dX12_see_56 : decode cX12_see 56 = .ok (.bipush 8, 2) := by decide +kernel
theorem dX12_see_58 : decode cX12_see 58 = .ok (.ishl, 1) := by decide +kernel
theorem dX12_see_59 : decode cX12_see 59 = .ok (.aload_n 0, 1) := by decide +kernel
theorem dX12_see_60 : decode cX12_see 60 = .ok (.getfield 7, 3) := by decide +kernel
theorem dX12_see_63 : decode cX12_see 63 = .ok (.iload_n 3, 1) := by decide +kernel
theorem dX12_see_64 : decode cX12_see 64 = .ok (.iconst 1, 1) := by decide +kernel
theorem dX12_see_65 : decode cX12_see 65 = .ok (.iadd, 1) := by decide +kernel
theorem dX12_see_66 : decode cX12_see 66 = .ok (.iaload, 1) := by decide +kernel
theorem dX12_see_67 : decode cX12_see 67 = .ok (.ior, 1) := by decide +kernel
theorem dX12_see_68 : decode cX12_see 68 = .ok (.aload_n 0, 1) := by decide +kernel
theorem dX12_see_69 : decode cX12_see 69 = .ok (.getfield 170, 3) := by decide +kernel
theorem dX12_see_72 : decode cX12_see 72 = .ok (.if_icmp .ge 38, 3) := by decide +kernel
theorem dX12_see_75 : decode cX12_see 75 = .ok (.aload_n 0, 1) := by decide +kernel
theorem dX12_see_76 : decode cX12_see 76 = .ok (.getfield 7, 3) := by decide +kernel
theorem dX12_see_79 : decode cX12_see 79 = .ok (.iload_n 3, 1) := by decide +kernel
theorem dX12_see_80 : decode cX12_see 80 = .ok (.iconst 2, 1) := by decide +kernel
theorem dX12_see_81 : decode cX12_see 81 = .ok (.iadd, 1) := by decide +kernel
theorem dX12_see_82 : decode cX12_see 82 = .ok (.iaload, 1) := by decide +kernel
theorem dX12_see_83 : decode cX12_see 83 = .ok (.sipush 255, 3) := by decide +kernel
theorem dX12_see_86 : decode cX12_see 86 = .ok (.if_icmp .eq 20, 3) := by decide +kernel
theorem dX12_see_89 : decode cX12_see 89 = .ok (.aload_n 0, 1) := by decide +kernel
theorem dX12_see_90 : decode cX12_see 90 = .ok (.getfield 7, 3) := by decide +kernel
theorem dX12_see_93 : decode cX12_see 93 = .ok (.iload_n 3, 1) := by decide +kernel
theorem dX12_see_94 : decode cX12_see 94 = .ok (.iconst 2, 1) := by decide +kernel
theorem dX12_see_95 : decode cX12_see 95 = .ok (.iadd, 1) := by decide +kernel
theorem dX12_see_96 : decode cX12_see 96 = .ok (.iaload, 1) := by decide +kernel
theorem dX12_see_97 : decode cX12_see 97 = .ok (.aload_n 0, 1) := by decide +kernel
theorem dX12_see_98 : decode cX12_see 98 = .ok (.getfield 173, 3) := by decide +kernel
theorem dX12_see_101 : decode cX12_see 101 = .ok (.iconst 0, 1) := by decide +kernel
theorem dX12_see_102 : decode cX12_see 102 = .ok (.iaload, 1) := by decide +kernel
theorem dX12_see_103 : decode cX12_see 103 = .ok (.if_icmp .ge 7, 3) := by decide +kernel
theorem dX12_see_106 : decode cX12_see 106 = .ok (.iconst 1, 1) := by decide +kernel
theorem dX12_see_107 : decode cX12_see 107 = .ok (.goto 4, 3) := by decide +kernel
theorem dX12_see_110 : decode cX12_see 110 = .ok (.iconst 0, 1) := by decide +kernel
theorem dX12_see_111 : decode cX12_see 111 = .ok (.istore_n 2, 1) := by decide +kernel
theorem dX12_see_112 : decode cX12_see 112 = .ok (.iinc 3 3, 3) := by decide +kernel
theorem dX12_see_115 : decode cX12_see 115 = .ok (.goto (-74), 3) := by decide +kernel
theorem dX12_see_118 : decode cX12_see 118 = .ok (.iload_n 2, 1) := by decide +kernel
theorem dX12_see_119 : decode cX12_see 119 = .ok (.ifCond .ne 9, 3) := by decide +kernel
theorem dX12_see_122 : decode cX12_see 122 = .ok (.aload_n 0, 1) := by decide +kernel
theorem dX12_see_123 : decode cX12_see 123 = .ok (.iconst 5, 1) := by decide +kernel
theorem dX12_see_124 : decode cX12_see 124 = .ok (.invokevirtual 312, 3) := by decide +kernel
theorem dX12_see_127 : decode cX12_see 127 = .ok (.ireturn, 1) := by decide +kernel
theorem dX12_see_128 : decode cX12_see 128 = .ok (.aload_n 0, 1) := by decide +kernel
theorem dX12_see_129 : decode cX12_see 129 = .ok (.iload_n 1, 1) := by decide +kernel
theorem dX12_see_130 : decode cX12_see 130 = .ok (.iconst 3, 1) := by decide +kernel
theorem dX12_see_131 : decode cX12_see 131 = .ok (.idiv, 1) := by decide +kernel
theorem dX12_see_132 : decode cX12_see 132 = .ok (.putfield 291, 3) := by decide +kernel
theorem dX12_see_135 : decode cX12_see 135 = .ok (.iconst 0, 1) := by decide +kernel
theorem dX12_see_136 : decode cX12_see 136 = .ok (.istore_n 3, 1) := by decide +kernel
theorem dX12_see_137 : decode cX12_see 137 = .ok (.iload_n 3, 1) := by decide +kernel
theorem dX12_see_138 : decode cX12_see 138 = .ok (.aload_n 0, 1) := by decide +kernel
theorem dX12_see_139 : decode cX12_see 139 = .ok (.getfield 291, 3) := by decide +kernel
theorem dX12_see_142 : decode cX12_see 142 = .ok (.if_icmp .ge 73, 3) := by decide +kernel
theorem dX12_see_145 : decode cX12_see 145 = .ok (.aload_n 0, 1) := by decide +kernel
theorem dX12_see_146 : decode cX12_see 146 = .ok (.getfield 294, 3) := by decide +kernel
theorem dX12_see_149 : decode cX12_see 149 = .ok (.iload_n 3, 1) := by decide +kernel
theorem dX12_see_150 : decode cX12_see 150 = .ok (.aload_n 0, 1) := by decide +kernel
theorem dX12_see_151 : decode cX12_see 151 = .ok (.getfield 7, 3) := by decide +kernel
theorem dX12_see_154 : decode cX12_see 154 = .ok (.iconst 3, 1) := by decide +kernel
theorem dX12_see_155 : decode cX12_see 155 = .ok (.iload_n 3, 1) := by decide +kernel
theorem dX12_see_156 : decode cX12_see 156 = .ok (.imul, 1) := by decide +kernel
theorem dX12_see_157 : decode cX12_see 157 = .ok (.iaload, 1) := by decide +kernel
theorem dX12_see_158 : decode cX12_see 158 = .ok (.bipush 8, 2) := by decide +kernel
theorem dX12_see_160 : decode cX12_see 160 = .ok (.ishl, 1) := by decide +kernel
theorem dX12_see_161 : decode cX12_see 161 = .ok (.aload_n 0, 1) := by decide +kernel
theorem dX12_see_162 : decode cX12_see 162 = .ok (.getfield 7, 3) := by decide +kernel
theorem dX12_see_165 : decode cX12_see 165 = .ok (.iconst 3, 1) := by decide +kernel
theorem dX12_see_166 : decode cX12_see 166 = .ok (.iload_n 3, 1) := by decide +kernel
theorem dX12_see_167 : decode cX12_see 167 = .ok (.imul, 1) := by decide +kernel
theorem dX12_see_168 : decode cX12_see 168 = .ok (.iconst 1, 1) := by decide +kernel
theorem dX12_see_169 : decode cX12_see 169 = .ok (.iadd, 1) := by decide +kernel
theorem dX12_see_170 : decode cX12_see 170 = .ok (.iaload, 1) := by decide +kernel
theorem dX12_see_171 : decode cX12_see 171 = .ok (.ior, 1) := by decide +kernel
theorem dX12_see_172 : decode cX12_see 172 = .ok (.iastore, 1) := by decide +kernel
theorem dX12_see_173 : decode cX12_see 173 = .ok (.aload_n 0, 1) := by decide +kernel
theorem dX12_see_174 : decode cX12_see 174 = .ok (.getfield 297, 3) := by decide +kernel
theorem dX12_see_177 : decode cX12_see 177 = .ok (.iload_n 3, 1) := by decide +kernel
theorem dX12_see_178 : decode cX12_see 178 = .ok (.aload_n 0, 1) := by decide +kernel
theorem dX12_see_179 : decode cX12_see 179 = .ok (.getfield 7, 3) := by decide +kernel
theorem dX12_see_182 : decode cX12_see 182 = .ok (.iconst 3, 1) := by decide +kernel
theorem dX12_see_183 : decode cX12_see 183 = .ok (.iload_n 3, 1) := by decide +kernel
theorem dX12_see_184 : decode cX12_see 184 = .ok (.imul, 1) := by decide +kernel
theorem dX12_see_185 : decode cX12_see 185 = .ok (.iconst 2, 1) := by decide +kernel
theorem dX12_see_186 : decode cX12_see 186 = .ok (.iadd, 1) := by decide +kernel
theorem dX12_see_187 : decode cX12_see 187 = .ok (.iaload, 1) := by decide +kernel
theorem dX12_see_188 : decode cX12_see 188 = .ok (.sipush 255, 3) := by decide +kernel
theorem dX12_see_191 : decode cX12_see 191 = .ok (.if_icmp .ne 7, 3) := by decide +kernel
theorem dX12_see_194 : decode cX12_see 194 = .ok (.iconst (-1), 1) := by decide +kernel
theorem dX12_see_195 : decode cX12_see 195 = .ok (.goto 13, 3) := by decide +kernel
theorem dX12_see_198 : decode cX12_see 198 = .ok (.aload_n 0, 1) := by decide +kernel
theorem dX12_see_199 : decode cX12_see 199 = .ok (.getfield 7, 3) := by decide +kernel
theorem dX12_see_202 : decode cX12_see 202 = .ok (.iconst 3, 1) := by decide +kernel
theorem dX12_see_203 : decode cX12_see 203 = .ok (.iload_n 3, 1) := by decide +kernel
theorem dX12_see_204 : decode cX12_see 204 = .ok (.imul, 1) := by decide +kernel
theorem dX12_see_205 : decode cX12_see 205 = .ok (.iconst 2, 1) := by decide +kernel
theorem dX12_see_206 : decode cX12_see 206 = .ok (.iadd, 1) := by decide +kernel
theorem dX12_see_207 : decode cX12_see 207 = .ok (.iaload, 1) := by decide +kernel
theorem dX12_see_208 : decode cX12_see 208 = .ok (.iastore, 1) := by decide +kernel
theorem dX12_see_209 : decode cX12_see 209 = .ok (.iinc 3 1, 3) := by decide +kernel
end
