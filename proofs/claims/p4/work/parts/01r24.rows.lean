theorem dX12_worthOf_49 : decode cX12_worthOf 49 = .ok (.iload 4, 2) := by decide +kernel
theorem dX12_worthOf_51 : decode cX12_worthOf 51 = .ok (.iconst 1, 1) := by decide +kernel
theorem dX12_worthOf_52 : decode cX12_worthOf 52 = .ok (.isub, 1) := by decide +kernel
theorem dX12_worthOf_53 : decode cX12_worthOf 53 = .ok (.iand, 1) := by decide +kernel
theorem dX12_worthOf_54 : decode cX12_worthOf 54 = .ok (.istore 4, 2) := by decide +kernel
theorem dX12_worthOf_56 : decode cX12_worthOf 56 = .ok (.goto (-34), 3) := by decide +kernel
theorem dX12_worthOf_59 : decode cX12_worthOf 59 = .ok (.iload_n 3, 1) := by decide +kernel
theorem dX12_worthOf_60 : decode cX12_worthOf 60 = .ok (.ireturn, 1) := by decide +kernel
theorem dX12_worthOf_61 : decode cX12_worthOf 61 = .ok (.aload_n 0, 1) := by decide +kernel
theorem dX12_worthOf_62 : decode cX12_worthOf 62 = .ok (.dup, 1) := by decide +kernel
theorem dX12_worthOf_63 : decode cX12_worthOf 63 = .ok (.getfield 249, 3) := by decide +kernel
theorem dX12_worthOf_66 : decode cX12_worthOf 66 = .ok (.iconst 1, 1) := by decide +kernel
theorem dX12_worthOf_67 : decode cX12_worthOf 67 = .ok (.iadd, 1) := by decide +kernel
theorem dX12_worthOf_68 : decode cX12_worthOf 68 = .ok (.putfield 249, 3) := by decide +kernel
theorem dX12_worthOf_71 : decode cX12_worthOf 71 = .ok (.iconst 0, 1) := by decide +kernel
theorem dX12_worthOf_72 : decode cX12_worthOf 72 = .ok (.istore 4, 2) := by decide +kernel
theorem dX12_worthOf_74 : decode cX12_worthOf 74 = .ok (.iconst 0, 1) := by decide +kernel
theorem dX12_worthOf_75 : decode cX12_worthOf 75 = .ok (.istore 5, 2) := by decide +kernel
theorem dX12_worthOf_77 : decode cX12_worthOf 77 = .ok (.iload 5, 2) := by decide +kernel
theorem dX12_worthOf_79 : decode cX12_worthOf 79 = .ok (.aload_n 0, 1) := by decide +kernel
theorem dX12_worthOf_80 : decode cX12_worthOf 80 = .ok (.getfield 164, 3) := by decide +kernel
theorem dX12_worthOf_83 : decode cX12_worthOf 83 = .ok (.iload_n 2, 1) := by decide +kernel
theorem dX12_worthOf_84 : decode cX12_worthOf 84 = .ok (.iaload, 1) := by decide +kernel
theorem dX12_worthOf_85 : decode cX12_worthOf 85 = .ok (.if_icmp .ge 79, 3) := by decide +kernel
theorem dX12_worthOf_88 : decode cX12_worthOf 88 = .ok (.aload_n 0, 1) := by decide +kernel
theorem dX12_worthOf_89 : decode cX12_worthOf 89 = .ok (.getfield 203, 3) := by decide +kernel
theorem dX12_worthOf_92 : decode cX12_worthOf 92 = .ok (.sipush 2010, 3) := by decide +kernel
theorem dX12_worthOf_95 : decode cX12_worthOf 95 = .ok (.iload_n 2, 1) := by decide +kernel
theorem dX12_worthOf_96 : decode cX12_worthOf 96 = .ok (.imul, 1) := by decide +kernel
theorem dX12_worthOf_97 : decode cX12_worthOf 97 = .ok (.iload 5, 2) := by decide +kernel
theorem dX12_worthOf_99 : decode cX12_worthOf 99 = .ok (.iadd, 1) := by decide +kernel
theorem dX12_worthOf_100 : decode cX12_worthOf 100 = .ok (.iaload, 1) := by decide +kernel
theorem dX12_worthOf_101 : decode cX12_worthOf 101 = .ok (.iload_n 1, 1) := by decide +kernel
theorem dX12_worthOf_102 : decode cX12_worthOf 102 = .ok (.iand, 1) := by decide +kernel
theorem dX12_worthOf_103 : decode cX12_worthOf 103 = .ok (.istore 6, 2) := by decide +kernel
theorem dX12_worthOf_105 : decode cX12_worthOf 105 = .ok (.aload_n 0, 1) := by decide +kernel
theorem dX12_worthOf_106 : decode cX12_worthOf 106 = .ok (.getfield 246, 3) := by decide +kernel
theorem dX12_worthOf_109 : decode cX12_worthOf 109 = .ok (.iload 6, 2) := by decide +kernel
theorem dX12_worthOf_111 : decode cX12_worthOf 111 = .ok (.iaload, 1) := by decide +kernel
theorem dX12_worthOf_112 : decode cX12_worthOf 112 = .ok (.aload_n 0, 1) := by decide +kernel
theorem dX12_worthOf_113 : decode cX12_worthOf 113 = .ok (.getfield 249, 3) := by decide +kernel
theorem dX12_worthOf_116 : decode cX12_worthOf 116 = .ok (.if_icmp .ne 6, 3) := by decide +kernel
theorem dX12_worthOf_119 : decode cX12_worthOf 119 = .ok (.goto 39, 3) := by decide +kernel
theorem dX12_worthOf_122 : decode cX12_worthOf 122 = .ok (.aload_n 0, 1) := by decide +kernel
theorem dX12_worthOf_123 : decode cX12_worthOf 123 = .ok (.getfield 246, 3) := by decide +kernel
theorem dX12_worthOf_126 : decode cX12_worthOf 126 = .ok (.iload 6, 2) := by decide +kernel
theorem dX12_worthOf_128 : decode cX12_worthOf 128 = .ok (.aload_n 0, 1) := by decide +kernel
theorem dX12_worthOf_129 : decode cX12_worthOf 129 = .ok (.getfield 249, 3) := by decide +kernel
theorem dX12_worthOf_132 : decode cX12_worthOf 132 = .ok (.iastore, 1) := by decide +kernel
theorem dX12_worthOf_133 : decode cX12_worthOf 133 = .ok (.iinc 3 1, 3) := by decide +kernel
theorem dX12_worthOf_136 : decode cX12_worthOf 136 = .ok (.iload 6, 2) := by decide +kernel
theorem dX12_worthOf_138 : decode cX12_worthOf 138 = .ok (.invokestatic 544, 3) := by decide +kernel
theorem dX12_worthOf_141 : decode cX12_worthOf 141 = .ok (.iload 4, 2) := by decide +kernel
theorem dX12_worthOf_143 : decode cX12_worthOf 143 = .ok (.if_icmp .le 11, 3) := by decide +kernel
theorem dX12_worthOf_146 : decode cX12_worthOf 146 = .ok (.iload 6, 2) := by decide +kernel
theorem dX12_worthOf_148 : decode cX12_worthOf 148 = .ok (.invokestatic 544, 3) := by decide +kernel
theorem dX12_worthOf_151 : decode cX12_worthOf 151 = .ok (.goto 5, 3) := by decide +kernel
theorem dX12_worthOf_154 : decode cX12_worthOf 154 = .ok (.iload 4, 2) := by decide +kernel
theorem dX12_worthOf_156 : decode cX12_worthOf 156 = .ok (.istore 4, 2) := by decide +kernel
theorem dX12_worthOf_158 : decode cX12_worthOf 158 = .ok (.iinc 5 1, 3) := by decide +kernel
theorem dX12_worthOf_161 : decode cX12_worthOf 161 = .ok (.goto (-84), 3) := by decide +kernel
theorem dX12_worthOf_164 : decode cX12_worthOf 164 = .ok (.aload_n 0, 1) := by decide +kernel
theorem dX12_worthOf_165 : decode cX12_worthOf 165 = .ok (.getfield 243, 3) := by decide +kernel
theorem dX12_worthOf_168 : decode cX12_worthOf 168 = .ok (.iconst 2, 1) := by decide +kernel
theorem dX12_worthOf_169 : decode cX12_worthOf 169 = .ok (.if_icmp .ne 8, 3) := by decide +kernel
theorem dX12_worthOf_172 : decode cX12_worthOf 172 = .ok (.iload_n 3, 1) := by decide +kernel
theorem dX12_worthOf_173 : decode cX12_worthOf 173 = .ok (.ineg, 1) := by decide +kernel
theorem dX12_worthOf_174 : decode cX12_worthOf 174 = .ok (.goto 6, 3) := by decide +kernel
theorem dX12_worthOf_177 : decode cX12_worthOf 177 = .ok (.iload 4, 2) := by decide +kernel
theorem dX12_worthOf_179 : decode cX12_worthOf 179 = .ok (.ineg, 1) := by decide +kernel
theorem dX12_worthOf_180 : decode cX12_worthOf 180 = .ok (.ireturn, 1) := by decide +kernel
theorem dX12_asksFor_0 : decode cX12_asksFor 0 = .ok (.aload_n 0, 1) := by decide +kernel
theorem dX12_asksFor_1 : decode cX12_asksFor 1 = .ok (.getfield 240, 3) := by decide +kernel
theorem dX12_asksFor_4 : decode cX12_asksFor 4 = .ok (.iload_n 1, 1) := by decide +kernel
theorem dX12_asksFor_5 : decode cX12_asksFor 5 = .ok (.iaload, 1) := by decide +kernel
theorem dX12_asksFor_6 : decode cX12_asksFor 6 = .ok (.iconst 3, 1) := by decide +kernel
theorem dX12_asksFor_7 : decode cX12_asksFor 7 = .ok (.ishr, 1) := by decide +kernel
theorem dX12_asksFor_8 : decode cX12_asksFor 8 = .ok (.aload_n 0, 1) := by decide +kernel
theorem dX12_asksFor_9 : decode cX12_asksFor 9 = .ok (.getfield 236, 3) := by decide +kernel
theorem dX12_asksFor_12 : decode cX12_asksFor 12 = .ok (.if_icmp .ne 13, 3) := by decide +kernel
theorem dX12_asksFor_15 : decode cX12_asksFor 15 = .ok (.aload_n 0, 1) := by decide +kernel
theorem dX12_asksFor_16 : decode cX12_asksFor 16 = .ok (.getfield 240, 3) := by decide +kernel
theorem dX12_asksFor_19 : decode cX12_asksFor 19 = .ok (.iload_n 1, 1) := by decide +kernel
theorem dX12_asksFor_20 : decode cX12_asksFor 20 = .ok (.iaload, 1) := by decide +kernel
theorem dX12_asksFor_21 : decode cX12_asksFor 21 = .ok (.bipush 7, 2) := by decide +kernel
theorem dX12_asksFor_23 : decode cX12_asksFor 23 = .ok (.iand, 1) := by decide +kernel
theorem dX12_asksFor_24 : decode cX12_asksFor 24 = .ok (.ireturn, 1) := by decide +kernel
theorem dX12_asksFor_25 : decode cX12_asksFor 25 = .ok (.iload_n 1, 1) := by decide +kernel
theorem dX12_asksFor_26 : decode cX12_asksFor 26 = .ok (.invokestatic 547, 3) := by decide +kernel
theorem dX12_asksFor_29 : decode cX12_asksFor 29 = .ok (.istore_n 2, 1) := by decide +kernel
theorem dX12_asksFor_30 : decode cX12_asksFor 30 = .ok (.iload_n 2, 1) := by decide +kernel
theorem dX12_asksFor_31 : decode cX12_asksFor 31 = .ok (.invokestatic 495, 3) := by decide +kernel
theorem dX12_asksFor_34 : decode cX12_asksFor 34 = .ok (.istore_n 3, 1) := by decide +kernel
theorem dX12_asksFor_35 : decode cX12_asksFor 35 = .ok (.iconst 4, 1) := by decide +kernel
theorem dX12_asksFor_36 : decode cX12_asksFor 36 = .ok (.istore 4, 2) := by decide +kernel
theorem dX12_asksFor_38 : decode cX12_asksFor 38 = .ok (.iconst 0, 1) := by decide +kernel
theorem dX12_asksFor_39 : decode cX12_asksFor 39 = .ok (.istore 5, 2) := by decide +kernel
theorem dX12_asksFor_41 : decode cX12_asksFor 41 = .ok (.iconst 0, 1) := by decide +kernel
theorem dX12_asksFor_42 : decode cX12_asksFor 42 = .ok (.istore 6, 2) := by decide +kernel
theorem dX12_asksFor_44 : decode cX12_asksFor 44 = .ok (.iload 6, 2) := by decide +kernel
theorem dX12_asksFor_46 : decode cX12_asksFor 46 = .ok (.aload_n 0, 1) := by decide +kernel
theorem dX12_asksFor_47 : decode cX12_asksFor 47 = .ok (.invokevirtual 459, 3) := by decide +kernel
theorem dX12_asksFor_50 : decode cX12_asksFor 50 = .ok (.if_icmp .ge 77, 3) := by decide +kernel
theorem dX12_asksFor_53 : decode cX12_asksFor 53 = .ok (.iload_n 3, 1) := by decide +kernel
theorem dX12_asksFor_54 : decode cX12_asksFor 54 = .ok (.iconst (-1), 1) := by decide +kernel
theorem dX12_asksFor_55 : decode cX12_asksFor 55 = .ok (.if_icmp .eq 72, 3) := by decide +kernel
theorem dX12_asksFor_58 : decode cX12_asksFor 58 = .ok (.iload_n 1, 1) := by decide +kernel
theorem dX12_asksFor_59 : decode cX12_asksFor 59 = .ok (.invokestatic 550, 3) := by decide +kernel
theorem dX12_asksFor_62 : decode cX12_asksFor 62 = .ok (.iload 6, 2) := by decide +kernel
theorem dX12_asksFor_64 : decode cX12_asksFor 64 = .ok (.ishr, 1) := by decide +kernel
theorem dX12_asksFor_65 : decode cX12_asksFor 65 = .ok (.iconst 1, 1) := by decide +kernel
theorem dX12_asksFor_66 : decode cX12_asksFor 66 = .ok (.iand, 1) := by decide +kernel
theorem dX12_asksFor_67 : decode cX12_asksFor 67 = .ok (.ifCond .eq 54, 3) := by decide +kernel
theorem dX12_asksFor_70 : decode cX12_asksFor 70 = .ok (.aload_n 0, 1) := by decide +kernel
theorem dX12_asksFor_71 : decode cX12_asksFor 71 = .ok (.getfield 206, 3) := by decide +kernel
theorem dX12_asksFor_74 : decode cX12_asksFor 74 = .ok (.iload 6, 2) := by decide +kernel
theorem dX12_asksFor_76 : decode cX12_asksFor 76 = .ok (.iaload, 1) := by decide +kernel
theorem dX12_asksFor_77 : decode cX12_asksFor 77 = .ok (.iload_n 3, 1) := by decide +kernel
theorem dX12_asksFor_78 : decode cX12_asksFor 78 = .ok (.ishr, 1) := by decide +kernel
theorem dX12_asksFor_79 : decode cX12_asksFor 79 = .ok (.iconst 1, 1) := by decide +kernel
theorem dX12_asksFor_80 : decode cX12_asksFor 80 = .ok (.iand, 1) := by decide +kernel
theorem dX12_asksFor_81 : decode cX12_asksFor 81 = .ok (.iconst 1, 1) := by decide +kernel
theorem dX12_asksFor_82 : decode cX12_asksFor 82 = .ok (.if_icmp .ne 6, 3) := by decide +kernel
theorem dX12_asksFor_85 : decode cX12_asksFor 85 = .ok (.goto 36, 3) := by decide +kernel
theorem dX12_asksFor_88 : decode cX12_asksFor 88 = .ok (.aload_n 0, 1) := by decide +kernel
theorem dX12_asksFor_89 : decode cX12_asksFor 89 = .ok (.iload_n 2, 1) := by decide +kernel
theorem dX12_asksFor_90 : decode cX12_asksFor 90 = .ok (.iload 6, 2) := by decide +kernel
theorem dX12_asksFor_92 : decode cX12_asksFor 92 = .ok (.invokevirtual 553, 3) := by decide +kernel
theorem dX12_asksFor_95 : decode cX12_asksFor 95 = .ok (.istore 7, 2) := by decide +kernel
theorem dX12_asksFor_97 : decode cX12_asksFor 97 = .ok (.iload 4, 2) := by decide +kernel
theorem dX12_asksFor_99 : decode cX12_asksFor 99 = .ok (.iconst 4, 1) := by decide +kernel
theorem dX12_asksFor_100 : decode cX12_asksFor 100 = .ok (.if_icmp .eq 13, 3) := by decide +kernel
theorem dX12_asksFor_103 : decode cX12_asksFor 103 = .ok (.iload 7, 2) := by decide +kernel
theorem dX12_asksFor_105 : decode cX12_asksFor 105 = .ok (.iload 5, 2) := by decide +kernel
theorem dX12_asksFor_107 : decode cX12_asksFor 107 = .ok (.if_icmp .gt 6, 3) := by decide +kernel
theorem dX12_asksFor_110 : decode cX12_asksFor 110 = .ok (.goto 11, 3) := by decide +kernel
theorem dX12_asksFor_113 : decode cX12_asksFor 113 = .ok (.iload 6, 2) := by decide +kernel
theorem dX12_asksFor_115 : decode cX12_asksFor 115 = .ok (.istore 4, 2) := by decide +kernel
theorem dX12_asksFor_117 : decode cX12_asksFor 117 = .ok (.iload 7, 2) := by decide +kernel
theorem dX12_asksFor_119 : decode cX12_asksFor 119 = .ok (.istore 5, 2) := by decide +kernel
theorem dX12_asksFor_121 : decode cX12_asksFor 121 = .ok (.iinc 6 1, 3) := by decide +kernel
theorem dX12_asksFor_124 : decode cX12_asksFor 124 = .ok (.goto (-80), 3) := by decide +kernel
theorem dX12_asksFor_127 : decode cX12_asksFor 127 = .ok (.aload_n 0, 1) := by decide +kernel
theorem dX12_asksFor_128 : decode cX12_asksFor 128 = .ok (.getfield 240, 3) := by decide +kernel
theorem dX12_asksFor_131 : decode cX12_asksFor 131 = .ok (.iload_n 1, 1) := by decide +kernel
theorem dX12_asksFor_132 : decode cX12_asksFor 132 = .ok (.aload_n 0, 1) := by decide +kernel
theorem dX12_asksFor_133 : decode cX12_asksFor 133 = .ok (.getfield 236, 3) := by decide +kernel
theorem dX12_asksFor_136 : decode cX12_asksFor 136 = .ok (.iconst 3, 1) := by decide +kernel
theorem dX12_asksFor_137 : decode cX12_asksFor 137 = .ok (.ishl, 1) := by decide +kernel
theorem dX12_asksFor_138 : decode cX12_asksFor 138 = .ok (.iload 4, 2) := by decide +kernel
theorem dX12_asksFor_140 : decode cX12_asksFor 140 = .ok (.ior, 1) := by decide +kernel
theorem dX12_asksFor_141 : decode cX12_asksFor 141 = .ok (.iastore, 1) := by decide +kernel
theorem dX12_asksFor_142 : decode cX12_asksFor 142 = .ok (.iload 4, 2) := by decide +kernel
theorem dX12_asksFor_144 : decode cX12_asksFor 144 = .ok (.ireturn, 1) := by decide +kernel
theorem dX12_isDoor_0 : decode cX12_isDoor 0 = .ok (.iload_n 1, 1) := by decide +kernel
theorem dX12_isDoor_1 : decode cX12_isDoor 1 = .ok (.invokestatic 547, 3) := by decide +kernel
theorem dX12_isDoor_4 : decode cX12_isDoor 4 = .ok (.ifCond .eq 32, 3) := by decide +kernel
theorem dX12_isDoor_7 : decode cX12_isDoor 7 = .ok (.aload_n 0, 1) := by decide +kernel
theorem dX12_isDoor_8 : decode cX12_isDoor 8 = .ok (.iload_n 1, 1) := by decide +kernel
theorem dX12_isDoor_9 : decode cX12_isDoor 9 = .ok (.invokevirtual 556, 3) := by decide +kernel
theorem dX12_isDoor_12 : decode cX12_isDoor 12 = .ok (.iconst 4, 1) := by decide +kernel
theorem dX12_isDoor_13 : decode cX12_isDoor 13 = .ok (.if_icmp .ne 23, 3) := by decide +kernel
theorem dX12_isDoor_16 : decode cX12_isDoor 16 = .ok (.aload_n 0, 1) := by decide +kernel
theorem dX12_isDoor_17 : decode cX12_isDoor 17 = .ok (.getfield 209, 3) := by decide +kernel
theorem dX12_isDoor_20 : decode cX12_isDoor 20 = .ok (.iload_n 1, 1) := by decide +kernel
theorem dX12_isDoor_21 : decode cX12_isDoor 21 = .ok (.invokestatic 547, 3) := by decide +kernel
theorem dX12_isDoor_24 : decode cX12_isDoor 24 = .ok (.invokestatic 495, 3) := by decide +kernel
theorem dX12_isDoor_27 : decode cX12_isDoor 27 = .ok (.iaload, 1) := by decide +kernel
theorem dX12_isDoor_28 : decode cX12_isDoor 28 = .ok (.iconst (-1), 1) := by decide +kernel
theorem dX12_isDoor_29 : decode cX12_isDoor 29 = .ok (.if_icmp .eq 7, 3) := by decide +kernel
theorem dX12_isDoor_32 : decode cX12_isDoor 32 = .ok (.iconst 1, 1) := by decide +kernel
theorem dX12_isDoor_33 : decode cX12_isDoor 33 = .ok (.goto 4, 3) := by decide +kernel
theorem dX12_isDoor_36 : decode cX12_isDoor 36 = .ok (.iconst 0, 1) := by decide +kernel
theorem dX12_isDoor_37 : decode cX12_isDoor 37 = .ok (.ireturn, 1) := by decide +kernel
theorem dX12_throughDoor_0 : decode cX12_throughDoor 0 = .ok (.iload_n 0, 1) := by decide +kernel
theorem dX12_throughDoor_1 : decode cX12_throughDoor 1 = .ok (.invokestatic 547, 3) := by decide +kernel
theorem dX12_throughDoor_4 : decode cX12_throughDoor 4 = .ok (.iload_n 0, 1) := by decide +kernel
theorem dX12_throughDoor_5 : decode cX12_throughDoor 5 = .ok (.invokestatic 547, 3) := by decide +kernel
theorem dX12_throughDoor_8 : decode cX12_throughDoor 8 = .ok (.iconst 1, 1) := by decide +kernel
theorem dX12_throughDoor_9 : decode cX12_throughDoor 9 = .ok (.isub, 1) := by decide +kernel
theorem dX12_throughDoor_10 : decode cX12_throughDoor 10 = .ok (.iand, 1) := by decide +kernel
theorem dX12_throughDoor_11 : decode cX12_throughDoor 11 = .ok (.iload_n 0, 1) := by decide +kernel
theorem dX12_throughDoor_12 : decode cX12_throughDoor 12 = .ok (.invokestatic 550, 3) := by decide +kernel
theorem dX12_throughDoor_15 : decode cX12_throughDoor 15 = .ok (.invokestatic 559, 3) := by decide +kernel
theorem dX12_throughDoor_18 : decode cX12_throughDoor 18 = .ok (.ireturn, 1) := by decide +kernel
theorem dX12_branchOf_0 : decode cX12_branchOf 0 = .ok (.iload_n 1, 1) := by decide +kernel
theorem dX12_branchOf_1 : decode cX12_branchOf 1 = .ok (.invokestatic 547, 3) := by decide +kernel
theorem dX12_branchOf_4 : decode cX12_branchOf 4 = .ok (.iload_n 3, 1) := by decide +kernel
theorem dX12_branchOf_5 : decode cX12_branchOf 5 = .ok (.iand, 1) := by decide +kernel
theorem dX12_branchOf_6 : decode cX12_branchOf 6 = .ok (.iload_n 1, 1) := by decide +kernel
theorem dX12_branchOf_7 : decode cX12_branchOf 7 = .ok (.invokestatic 550, 3) := by decide +kernel
theorem dX12_branchOf_10 : decode cX12_branchOf 10 = .ok (.iconst 1, 1) := by decide +kernel
theorem dX12_branchOf_11 : decode cX12_branchOf 11 = .ok (.iload_n 2, 1) := by decide +kernel
theorem dX12_branchOf_12 : decode cX12_branchOf 12 = .ok (.ishl, 1) := by decide +kernel
theorem dX12_branchOf_13 : decode cX12_branchOf 13 = .ok (.iconst (-1), 1) := by decide +kernel
theorem dX12_branchOf_14 : decode cX12_branchOf 14 = .ok (.ixor, 1) := by decide +kernel
theorem dX12_branchOf_15 : decode cX12_branchOf 15 = .ok (.iand, 1) := by decide +kernel
theorem dX12_branchOf_16 : decode cX12_branchOf 16 = .ok (.invokestatic 559, 3) := by decide +kernel
theorem dX12_branchOf_19 : decode cX12_branchOf 19 = .ok (.ireturn, 1) := by decide +kernel
theorem dX12_root_0 : decode cX12_root 0 = .ok (.iconst 1, 1) := by decide +kernel
theorem dX12_root_1 : decode cX12_root 1 = .ok (.aload_n 0, 1) := by decide +kernel
theorem dX12_root_2 : decode cX12_root 2 = .ok (.getfield 200, 3) := by decide +kernel
theorem dX12_root_5 : decode cX12_root 5 = .ok (.ishl, 1) := by decide +kernel
theorem dX12_root_6 : decode cX12_root 6 = .ok (.iconst 1, 1) := by decide +kernel
theorem dX12_root_7 : decode cX12_root 7 = .ok (.isub, 1) := by decide +kernel
theorem dX12_root_8 : decode cX12_root 8 = .ok (.iconst 1, 1) := by decide +kernel
theorem dX12_root_9 : decode cX12_root 9 = .ok (.aload_n 0, 1) := by decide +kernel
theorem dX12_root_10 : decode cX12_root 10 = .ok (.invokevirtual 459, 3) := by decide +kernel
theorem dX12_root_13 : decode cX12_root 13 = .ok (.ishl, 1) := by decide +kernel
theorem dX12_root_14 : decode cX12_root 14 = .ok (.iconst 1, 1) := by decide +kernel
theorem dX12_root_15 : decode cX12_root 15 = .ok (.isub, 1) := by decide +kernel
theorem dX12_root_16 : decode cX12_root 16 = .ok (.invokestatic 559, 3) := by decide +kernel
theorem dX12_root_19 : decode cX12_root 19 = .ok (.ireturn, 1) := by decide +kernel
theorem dX12_plants_0 : decode cX12_plants 0 = .ok (.aload_n 0, 1) := by decide +kernel
theorem dX12_plants_1 : decode cX12_plants 1 = .ok (.iload_n 1, 1) := by decide +kernel
theorem dX12_plants_2 : decode cX12_plants 2 = .ok (.invokevirtual 501, 3) := by decide +kernel
theorem dX12_plants_5 : decode cX12_plants 5 = .ok (.aload_n 0, 1) := by decide +kernel
theorem dX12_plants_6 : decode cX12_plants 6 = .ok (.iload_n 2, 1) := by decide +kernel
theorem dX12_plants_7 : decode cX12_plants 7 = .ok (.putfield 243, 3) := by decide +kernel
theorem dX12_plants_10 : decode cX12_plants 10 = .ok (.return_, 1) := by decide +kernel
theorem dX12_testsFor_0 : decode cX12_testsFor 0 = .ok (.aload_n 0, 1) := by decide +kernel
theorem dX12_testsFor_1 : decode cX12_testsFor 1 = .ok (.iload_n 1, 1) := by decide +kernel
theorem dX12_testsFor_2 : decode cX12_testsFor 2 = .ok (.invokevirtual 478, 3) := by decide +kernel
theorem dX12_testsFor_5 : decode cX12_testsFor 5 = .ok (.aload_n 0, 1) := by decide +kernel
theorem dX12_testsFor_6 : decode cX12_testsFor 6 = .ok (.invokevirtual 562, 3) := by decide +kernel
theorem dX12_testsFor_9 : decode cX12_testsFor 9 = .ok (.istore_n 3, 1) := by decide +kernel
theorem dX12_testsFor_10 : decode cX12_testsFor 10 = .ok (.iconst 0, 1) := by decide +kernel
theorem dX12_testsFor_11 : decode cX12_testsFor 11 = .ok (.istore 4, 2) := by decide +kernel
theorem dX12_testsFor_13 : decode cX12_testsFor 13 = .ok (.iload_n 3, 1) := by decide +kernel
theorem dX12_testsFor_14 : decode cX12_testsFor 14 = .ok (.invokestatic 547, 3) := by decide +kernel
theorem dX12_testsFor_17 : decode cX12_testsFor 17 = .ok (.ifCond .eq 69, 3) := by decide +kernel
theorem dX12_testsFor_20 : decode cX12_testsFor 20 = .ok (.aload_n 0, 1) := by decide +kernel
theorem dX12_testsFor_21 : decode cX12_testsFor 21 = .ok (.iload_n 3, 1) := by decide +kernel
theorem dX12_testsFor_22 : decode cX12_testsFor 22 = .ok (.invokevirtual 556, 3) := by decide +kernel
theorem dX12_testsFor_25 : decode cX12_testsFor 25 = .ok (.istore 5, 2) := by decide +kernel
theorem dX12_testsFor_27 : decode cX12_testsFor 27 = .ok (.iload 5, 2) := by decide +kernel
theorem dX12_testsFor_29 : decode cX12_testsFor 29 = .ok (.iconst 4, 1) := by decide +kernel
theorem dX12_testsFor_30 : decode cX12_testsFor 30 = .ok (.if_icmp .ne 29, 3) := by decide +kernel
theorem dX12_testsFor_33 : decode cX12_testsFor 33 = .ok (.iload_n 2, 1) := by decide +kernel
theorem dX12_testsFor_34 : decode cX12_testsFor 34 = .ok (.iload_n 3, 1) := by decide +kernel
theorem dX12_testsFor_35 : decode cX12_testsFor 35 = .ok (.invokestatic 547, 3) := by decide +kernel
theorem dX12_testsFor_38 : decode cX12_testsFor 38 = .ok (.invokestatic 495, 3) := by decide +kernel
theorem dX12_testsFor_41 : decode cX12_testsFor 41 = .ok (.ishr, 1) := by decide +kernel
theorem dX12_testsFor_42 : decode cX12_testsFor 42 = .ok (.iconst 1, 1) := by decide +kernel
theorem dX12_testsFor_43 : decode cX12_testsFor 43 = .ok (.iand, 1) := by decide +kernel
theorem dX12_testsFor_44 : decode cX12_testsFor 44 = .ok (.iconst 1, 1) := by decide +kernel
theorem dX12_testsFor_45 : decode cX12_testsFor 45 = .ok (.if_icmp .ne 6, 3) := by decide +kernel
theorem dX12_testsFor_48 : decode cX12_testsFor 48 = .ok (.iload 4, 2) := by decide +kernel
theorem dX12_testsFor_50 : decode cX12_testsFor 50 = .ok (.ireturn, 1) := by decide +kernel
theorem dX12_testsFor_51 : decode cX12_testsFor 51 = .ok (.iload_n 3, 1) := by decide +kernel
theorem dX12_testsFor_52 : decode cX12_testsFor 52 = .ok (.invokestatic 565, 3) := by decide +kernel
theorem dX12_testsFor_55 : decode cX12_testsFor 55 = .ok (.istore_n 3, 1) := by decide +kernel
theorem dX12_testsFor_56 : decode cX12_testsFor 56 = .ok (.goto (-43), 3) := by decide +kernel
theorem dX12_testsFor_59 : decode cX12_testsFor 59 = .ok (.iinc 4 1, 3) := by decide +kernel
theorem dX12_testsFor_62 : decode cX12_testsFor 62 = .ok (.aload_n 0, 1) := by decide +kernel
theorem dX12_testsFor_63 : decode cX12_testsFor 63 = .ok (.iload_n 3, 1) := by decide +kernel
theorem dX12_testsFor_64 : decode cX12_testsFor 64 = .ok (.iload 5, 2) := by decide +kernel
theorem dX12_testsFor_66 : decode cX12_testsFor 66 = .ok (.aload_n 0, 1) := by decide +kernel
theorem dX12_testsFor_67 : decode cX12_testsFor 67 = .ok (.iload 5, 2) := by decide +kernel
theorem dX12_testsFor_69 : decode cX12_testsFor 69 = .ok (.aload_n 0, 1) := by decide +kernel
theorem dX12_testsFor_70 : decode cX12_testsFor 70 = .ok (.getfield 215, 3) := by decide +kernel
theorem dX12_testsFor_73 : decode cX12_testsFor 73 = .ok (.iload 5, 2) := by decide +kernel
theorem dX12_testsFor_75 : decode cX12_testsFor 75 = .ok (.iaload, 1) := by decide +kernel
theorem dX12_testsFor_76 : decode cX12_testsFor 76 = .ok (.invokevirtual 481, 3) := by decide +kernel
theorem dX12_testsFor_79 : decode cX12_testsFor 79 = .ok (.invokevirtual 568, 3) := by decide +kernel
theorem dX12_testsFor_82 : decode cX12_testsFor 82 = .ok (.istore_n 3, 1) := by decide +kernel
theorem dX12_testsFor_83 : decode cX12_testsFor 83 = .ok (.goto (-70), 3) := by decide +kernel
theorem dX12_testsFor_86 : decode cX12_testsFor 86 = .ok (.iload 4, 2) := by decide +kernel
theorem dX12_testsFor_88 : decode cX12_testsFor 88 = .ok (.ireturn, 1) := by decide +kernel
theorem dX12_allTests_0 : decode cX12_allTests 0 = .ok (.aload_n 0, 1) := by decide +kernel
theorem dX12_allTests_1 : decode cX12_allTests 1 = .ok (.aload_n 0, 1) := by decide +kernel
theorem dX12_allTests_2 : decode cX12_allTests 2 = .ok (.getfield 179, 3) := by decide +kernel
theorem dX12_allTests_5 : decode cX12_allTests 5 = .ok (.iload_n 1, 1) := by decide +kernel
theorem dX12_allTests_6 : decode cX12_allTests 6 = .ok (.iaload, 1) := by decide +kernel
theorem dX12_allTests_7 : decode cX12_allTests 7 = .ok (.invokevirtual 492, 3) := by decide +kernel
theorem dX12_allTests_10 : decode cX12_allTests 10 = .ok (.istore_n 2, 1) := by decide +kernel
theorem dX12_allTests_11 : decode cX12_allTests 11 = .ok (.iconst 0, 1) := by decide +kernel
theorem dX12_allTests_12 : decode cX12_allTests 12 = .ok (.istore_n 3, 1) := by decide +kernel
theorem dX12_allTests_13 : decode cX12_allTests 13 = .ok (.iconst 0, 1) := by decide +kernel
theorem dX12_allTests_14 : decode cX12_allTests 14 = .ok (.istore 4, 2) := by decide +kernel
theorem dX12_allTests_16 : decode cX12_allTests 16 = .ok (.iload 4, 2) := by decide +kernel
theorem dX12_allTests_18 : decode cX12_allTests 18 = .ok (.aload_n 0, 1) := by decide +kernel
theorem dX12_allTests_19 : decode cX12_allTests 19 = .ok (.getfield 170, 3) := by decide +kernel
theorem dX12_allTests_22 : decode cX12_allTests 22 = .ok (.if_icmp .ge 19, 3) := by decide +kernel
theorem dX12_allTests_25 : decode cX12_allTests 25 = .ok (.iload_n 3, 1) := by decide +kernel
theorem dX12_allTests_26 : decode cX12_allTests 26 = .ok (.aload_n 0, 1) := by decide +kernel
theorem dX12_allTests_27 : decode cX12_allTests 27 = .ok (.iload 4, 2) := by decide +kernel
theorem dX12_allTests_29 : decode cX12_allTests 29 = .ok (.iload_n 2, 1) := by decide +kernel
theorem dX12_allTests_30 : decode cX12_allTests 30 = .ok (.invokevirtual 571, 3) := by decide +kernel
theorem dX12_allTests_33 : decode cX12_allTests 33 = .ok (.iadd, 1) := by decide +kernel
theorem dX12_allTests_34 : decode cX12_allTests 34 = .ok (.istore_n 3, 1) := by decide +kernel
theorem dX12_allTests_35 : decode cX12_allTests 35 = .ok (.iinc 4 1, 3) := by decide +kernel
theorem dX12_allTests_38 : decode cX12_allTests 38 = .ok (.goto (-22), 3) := by decide +kernel
theorem dX12_allTests_41 : decode cX12_allTests 41 = .ok (.iload_n 3, 1) := by decide +kernel
theorem dX12_allTests_42 : decode cX12_allTests 42 = .ok (.ireturn, 1) := by decide +kernel
theorem dX12_reaches_0 : decode cX12_reaches 0 = .ok (.aload_n 0, 1) := by decide +kernel
theorem dX12_reaches_1 : decode cX12_reaches 1 = .ok (.getfield 252, 3) := by decide +kernel
theorem dX12_reaches_4 : decode cX12_reaches 4 = .ok (.iload_n 1, 1) := by decide +kernel
theorem dX12_reaches_5 : decode cX12_reaches 5 = .ok (.iaload, 1) := by decide +kernel
theorem dX12_reaches_6 : decode cX12_reaches 6 = .ok (.aload_n 0, 1) := by decide +kernel
theorem dX12_reaches_7 : decode cX12_reaches 7 = .ok (.getfield 236, 3) := by decide +kernel
theorem dX12_reaches_10 : decode cX12_reaches 10 = .ok (.if_icmp .ne 4, 3) := by decide +kernel
theorem dX12_reaches_13 : decode cX12_reaches 13 = .ok (.return_, 1) := by decide +kernel
theorem dX12_reaches_14 : decode cX12_reaches 14 = .ok (.aload_n 0, 1) := by decide +kernel
theorem dX12_reaches_15 : decode cX12_reaches 15 = .ok (.getfield 252, 3) := by decide +kernel
theorem dX12_reaches_18 : decode cX12_reaches 18 = .ok (.iload_n 1, 1) := by decide +kernel
theorem dX12_reaches_19 : decode cX12_reaches 19 = .ok (.aload_n 0, 1) := by decide +kernel
theorem dX12_reaches_20 : decode cX12_reaches 20 = .ok (.getfield 236, 3) := by decide +kernel
theorem dX12_reaches_23 : decode cX12_reaches 23 = .ok (.iastore, 1) := by decide +kernel
theorem dX12_reaches_24 : decode cX12_reaches 24 = .ok (.aload_n 0, 1) := by decide +kernel
theorem dX12_reaches_25 : decode cX12_reaches 25 = .ok (.getfield 255, 3) := by decide +kernel
theorem dX12_reaches_28 : decode cX12_reaches 28 = .ok (.aload_n 0, 1) := by decide +kernel
theorem dX12_reaches_29 : decode cX12_reaches 29 = .ok (.getfield 258, 3) := by decide +kernel
theorem dX12_reaches_32 : decode cX12_reaches 32 = .ok (.iload_n 1, 1) := by decide +kernel
theorem dX12_reaches_33 : decode cX12_reaches 33 = .ok (.iastore, 1) := by decide +kernel
theorem dX12_reaches_34 : decode cX12_reaches 34 = .ok (.aload_n 0, 1) := by decide +kernel
theorem dX12_reaches_35 : decode cX12_reaches 35 = .ok (.dup, 1) := by decide +kernel
theorem dX12_reaches_36 : decode cX12_reaches 36 = .ok (.getfield 258, 3) := by decide +kernel
theorem dX12_reaches_39 : decode cX12_reaches 39 = .ok (.iconst 1, 1) := by decide +kernel
theorem dX12_reaches_40 : decode cX12_reaches 40 = .ok (.iadd, 1) := by decide +kernel
theorem dX12_reaches_41 : decode cX12_reaches 41 = .ok (.putfield 258, 3) := by decide +kernel
theorem dX12_reaches_44 : decode cX12_reaches 44 = .ok (.return_, 1) := by decide +kernel
theorem dX12_grows_0 : decode cX12_grows 0 = .ok (.aload_n 0, 1) := by decide +kernel
theorem dX12_grows_1 : decode cX12_grows 1 = .ok (.iconst 0, 1) := by decide +kernel
theorem dX12_grows_2 : decode cX12_grows 2 = .ok (.putfield 258, 3) := by decide +kernel
theorem dX12_grows_5 : decode cX12_grows 5 = .ok (.aload_n 0, 1) := by decide +kernel
theorem dX12_grows_6 : decode cX12_grows 6 = .ok (.aload_n 0, 1) := by decide +kernel
theorem dX12_grows_7 : decode cX12_grows 7 = .ok (.invokevirtual 562, 3) := by decide +kernel
theorem dX12_grows_10 : decode cX12_grows 10 = .ok (.invokevirtual 574, 3) := by decide +kernel
theorem dX12_grows_13 : decode cX12_grows 13 = .ok (.iconst 0, 1) := by decide +kernel
theorem dX12_grows_14 : decode cX12_grows 14 = .ok (.istore_n 1, 1) := by decide +kernel
theorem dX12_grows_15 : decode cX12_grows 15 = .ok (.iload_n 1, 1) := by decide +kernel
theorem dX12_grows_16 : decode cX12_grows 16 = .ok (.aload_n 0, 1) := by decide +kernel
theorem dX12_grows_17 : decode cX12_grows 17 = .ok (.getfield 258, 3) := by decide +kernel
theorem dX12_grows_20 : decode cX12_grows 20 = .ok (.if_icmp .ge 89, 3) := by decide +kernel
theorem dX12_grows_23 : decode cX12_grows 23 = .ok (.aload_n 0, 1) := by decide +kernel
theorem dX12_grows_24 : decode cX12_grows 24 = .ok (.getfield 255, 3) := by decide +kernel
theorem dX12_grows_27 : decode cX12_grows 27 = .ok (.iload_n 1, 1) := by decide +kernel
theorem dX12_grows_28 : decode cX12_grows 28 = .ok (.iaload, 1) := by decide +kernel
theorem dX12_grows_29 : decode cX12_grows 29 = .ok (.istore_n 2, 1) := by decide +kernel
theorem dX12_grows_30 : decode cX12_grows 30 = .ok (.aload_n 0, 1) := by decide +kernel
theorem dX12_grows_31 : decode cX12_grows 31 = .ok (.iload_n 2, 1) := by decide +kernel
theorem dX12_grows_32 : decode cX12_grows 32 = .ok (.invokevirtual 556, 3) := by decide +kernel
theorem dX12_grows_35 : decode cX12_grows 35 = .ok (.istore_n 3, 1) := by decide +kernel
theorem dX12_grows_36 : decode cX12_grows 36 = .ok (.iload_n 3, 1) := by decide +kernel
theorem dX12_grows_37 : decode cX12_grows 37 = .ok (.iconst 4, 1) := by decide +kernel
theorem dX12_grows_38 : decode cX12_grows 38 = .ok (.if_icmp .ne 22, 3) := by decide +kernel
theorem dX12_grows_41 : decode cX12_grows 41 = .ok (.aload_n 0, 1) := by decide +kernel
theorem dX12_grows_42 : decode cX12_grows 42 = .ok (.iload_n 2, 1) := by decide +kernel
theorem dX12_grows_43 : decode cX12_grows 43 = .ok (.invokevirtual 577, 3) := by decide +kernel
theorem dX12_grows_46 : decode cX12_grows 46 = .ok (.ifCond .eq 57, 3) := by decide +kernel
theorem dX12_grows_49 : decode cX12_grows 49 = .ok (.aload_n 0, 1) := by decide +kernel
theorem dX12_grows_50 : decode cX12_grows 50 = .ok (.iload_n 2, 1) := by decide +kernel
theorem dX12_grows_51 : decode cX12_grows 51 = .ok (.invokestatic 565, 3) := by decide +kernel
theorem dX12_grows_54 : decode cX12_grows 54 = .ok (.invokevirtual 574, 3) := by decide +kernel
theorem dX12_grows_57 : decode cX12_grows 57 = .ok (.goto 46, 3) := by decide +kernel
theorem dX12_grows_60 : decode cX12_grows 60 = .ok (.iconst 0, 1) := by decide +kernel
theorem dX12_grows_61 : decode cX12_grows 61 = .ok (.istore 4, 2) := by decide +kernel
theorem dX12_grows_63 : decode cX12_grows 63 = .ok (.iload 4, 2) := by decide +kernel
theorem dX12_grows_65 : decode cX12_grows 65 = .ok (.aload_n 0, 1) := by decide +kernel
theorem dX12_grows_66 : decode cX12_grows 66 = .ok (.getfield 164, 3) := by decide +kernel
theorem dX12_grows_69 : decode cX12_grows 69 = .ok (.iload_n 3, 1) := by decide +kernel
theorem dX12_grows_70 : decode cX12_grows 70 = .ok (.iaload, 1) := by decide +kernel
theorem dX12_grows_71 : decode cX12_grows 71 = .ok (.if_icmp .ge 32, 3) := by decide +kernel
theorem dX12_grows_74 : decode cX12_grows 74 = .ok (.aload_n 0, 1) := by decide +kernel
theorem dX12_grows_75 : decode cX12_grows 75 = .ok (.aload_n 0, 1) := by decide +kernel
theorem dX12_grows_76 : decode cX12_grows 76 = .ok (.iload_n 2, 1) := by decide +kernel
theorem dX12_grows_77 : decode cX12_grows 77 = .ok (.iload_n 3, 1) := by decide +kernel
theorem dX12_grows_78 : decode cX12_grows 78 = .ok (.aload_n 0, 1) := by decide +kernel
theorem dX12_grows_79 : decode cX12_grows 79 = .ok (.getfield 203, 3) := by decide +kernel
theorem dX12_grows_82 : decode cX12_grows 82 = .ok (.sipush 2010, 3) := by decide +kernel
theorem dX12_grows_85 : decode cX12_grows 85 = .ok (.iload_n 3, 1) := by decide +kernel
theorem dX12_grows_86 : decode cX12_grows 86 = .ok (.imul, 1) := by decide +kernel
theorem dX12_grows_87 : decode cX12_grows 87 = .ok (.iload 4, 2) := by decide +kernel
theorem dX12_grows_89 : decode cX12_grows 89 = .ok (.iadd, 1) := by decide +kernel
theorem dX12_grows_90 : decode cX12_grows 90 = .ok (.iaload, 1) := by decide +kernel
theorem dX12_grows_91 : decode cX12_grows 91 = .ok (.invokevirtual 568, 3) := by decide +kernel
theorem dX12_grows_94 : decode cX12_grows 94 = .ok (.invokevirtual 574, 3) := by decide +kernel
theorem dX12_grows_97 : decode cX12_grows 97 = .ok (.iinc 4 1, 3) := by decide +kernel
theorem dX12_grows_100 : decode cX12_grows 100 = .ok (.goto (-37), 3) := by decide +kernel
theorem dX12_grows_103 : decode cX12_grows 103 = .ok (.iinc 1 1, 3) := by decide +kernel
theorem dX12_grows_106 : decode cX12_grows 106 = .ok (.goto (-91), 3) := by decide +kernel
theorem dX12_grows_109 : decode cX12_grows 109 = .ok (.return_, 1) := by decide +kernel
theorem dX12_weighs_0 : decode cX12_weighs 0 = .ok (.aload_n 0, 1) := by decide +kernel
theorem dX12_weighs_1 : decode cX12_weighs 1 = .ok (.iload_n 1, 1) := by decide +kernel
theorem dX12_weighs_2 : decode cX12_weighs 2 = .ok (.invokevirtual 556, 3) := by decide +kernel
theorem dX12_weighs_5 : decode cX12_weighs 5 = .ok (.istore_n 2, 1) := by decide +kernel
theorem dX12_weighs_6 : decode cX12_weighs 6 = .ok (.iconst 1, 1) := by decide +kernel
theorem dX12_weighs_7 : decode cX12_weighs 7 = .ok (.istore_n 3, 1) := by decide +kernel
theorem dX12_weighs_8 : decode cX12_weighs 8 = .ok (.iconst 0, 1) := by decide +kernel
theorem dX12_weighs_9 : decode cX12_weighs 9 = .ok (.istore 4, 2) := by decide +kernel
theorem dX12_weighs_11 : decode cX12_weighs 11 = .ok (.iload_n 2, 1) := by decide +kernel
theorem dX12_weighs_12 : decode cX12_weighs 12 = .ok (.iconst 4, 1) := by decide +kernel
theorem dX12_weighs_13 : decode cX12_weighs 13 = .ok (.if_icmp .ne 39, 3) := by decide +kernel
theorem dX12_weighs_16 : decode cX12_weighs 16 = .ok (.aload_n 0, 1) := by decide +kernel
theorem dX12_weighs_17 : decode cX12_weighs 17 = .ok (.iload_n 1, 1) := by decide +kernel
theorem dX12_weighs_18 : decode cX12_weighs 18 = .ok (.invokevirtual 577, 3) := by decide +kernel
theorem dX12_weighs_21 : decode cX12_weighs 21 = .ok (.ifCond .eq 31, 3) := by decide +kernel
theorem dX12_weighs_24 : decode cX12_weighs 24 = .ok (.iload_n 3, 1) := by decide +kernel
theorem dX12_weighs_25 : decode cX12_weighs 25 = .ok (.aload_n 0, 1) := by decide +kernel
theorem dX12_weighs_26 : decode cX12_weighs 26 = .ok (.getfield 261, 3) := by decide +kernel
theorem dX12_weighs_29 : decode cX12_weighs 29 = .ok (.iload_n 1, 1) := by decide +kernel
theorem dX12_weighs_30 : decode cX12_weighs 30 = .ok (.invokestatic 565, 3) := by decide +kernel
theorem dX12_weighs_33 : decode cX12_weighs 33 = .ok (.iaload, 1) := by decide +kernel
theorem dX12_weighs_34 : decode cX12_weighs 34 = .ok (.iconst 3, 1) := by decide +kernel
theorem dX12_weighs_35 : decode cX12_weighs 35 = .ok (.ishr, 1) := by decide +kernel
theorem dX12_weighs_36 : decode cX12_weighs 36 = .ok (.iadd, 1) := by decide +kernel
theorem dX12_weighs_37 : decode cX12_weighs 37 = .ok (.istore_n 3, 1) := by decide +kernel
theorem dX12_weighs_38 : decode cX12_weighs 38 = .ok (.aload_n 0, 1) := by decide +kernel
theorem dX12_weighs_39 : decode cX12_weighs 39 = .ok (.getfield 261, 3) := by decide +kernel
theorem dX12_weighs_42 : decode cX12_weighs 42 = .ok (.iload_n 1, 1) := by decide +kernel
theorem dX12_weighs_43 : decode cX12_weighs 43 = .ok (.invokestatic 565, 3) := by decide +kernel
theorem dX12_weighs_46 : decode cX12_weighs 46 = .ok (.iaload, 1) := by decide +kernel
theorem dX12_weighs_47 : decode cX12_weighs 47 = .ok (.bipush 7, 2) := by decide +kernel
theorem dX12_weighs_49 : decode cX12_weighs 49 = .ok (.iand, 1) := by decide +kernel
theorem dX12_weighs_50 : decode cX12_weighs 50 = .ok (.istore 4, 2) := by decide +kernel
theorem dX12_weighs_52 : decode cX12_weighs 52 = .ok (.aload_n 0, 1) := by decide +kernel
theorem dX12_weighs_53 : decode cX12_weighs 53 = .ok (.dup, 1) := by decide +kernel
theorem dX12_weighs_54 : decode cX12_weighs 54 = .ok (.getfield 249, 3) := by decide +kernel
theorem dX12_weighs_57 : decode cX12_weighs 57 = .ok (.iconst 1, 1) := by decide +kernel
theorem dX12_weighs_58 : decode cX12_weighs 58 = .ok (.iadd, 1) := by decide +kernel
theorem dX12_weighs_59 : decode cX12_weighs 59 = .ok (.putfield 249, 3) := by decide +kernel
theorem dX12_weighs_62 : decode cX12_weighs 62 = .ok (.iconst 0, 1) := by decide +kernel
theorem dX12_weighs_63 : decode cX12_weighs 63 = .ok (.istore 5, 2) := by decide +kernel
theorem dX12_weighs_65 : decode cX12_weighs 65 = .ok (.iload_n 2, 1) := by decide +kernel
theorem dX12_weighs_66 : decode cX12_weighs 66 = .ok (.iconst 4, 1) := by decide +kernel
theorem dX12_weighs_67 : decode cX12_weighs 67 = .ok (.if_icmp .ge 117, 3) := by decide +kernel
theorem dX12_weighs_70 : decode cX12_weighs 70 = .ok (.iload 5, 2) := by decide +kernel
theorem dX12_weighs_72 : decode cX12_weighs 72 = .ok (.aload_n 0, 1) := by decide +kernel
theorem dX12_weighs_73 : decode cX12_weighs 73 = .ok (.getfield 164, 3) := by decide +kernel
