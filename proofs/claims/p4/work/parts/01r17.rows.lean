theorem dX12_matchIs_18 : decode cX12_matchIs 18 = .ok (.istore_n 1, 1) := by decide +kernel
theorem dX12_matchIs_19 : decode cX12_matchIs 19 = .ok (.aload_n 0, 1) := by decide +kernel
theorem dX12_matchIs_20 : decode cX12_matchIs 20 = .ok (.invokevirtual 331, 3) := by decide +kernel
theorem dX12_matchIs_23 : decode cX12_matchIs 23 = .ok (.aload_n 0, 1) := by decide +kernel
theorem dX12_matchIs_24 : decode cX12_matchIs 24 = .ok (.getfield 36, 3) := by decide +kernel
theorem dX12_matchIs_27 : decode cX12_matchIs 27 = .ok (.ifCond .ne 19, 3) := by decide +kernel
theorem dX12_matchIs_30 : decode cX12_matchIs 30 = .ok (.aload_n 0, 1) := by decide +kernel
theorem dX12_matchIs_31 : decode cX12_matchIs 31 = .ok (.invokevirtual 389, 3) := by decide +kernel
theorem dX12_matchIs_34 : decode cX12_matchIs 34 = .ok (.ifCond .ne 12, 3) := by decide +kernel
theorem dX12_matchIs_37 : decode cX12_matchIs 37 = .ok (.aload_n 0, 1) := by decide +kernel
theorem dX12_matchIs_38 : decode cX12_matchIs 38 = .ok (.iconst 1, 1) := by decide +kernel
theorem dX12_matchIs_39 : decode cX12_matchIs 39 = .ok (.aload_n 0, 1) := by decide +kernel
theorem dX12_matchIs_40 : decode cX12_matchIs 40 = .ok (.getfield 23, 3) := by decide +kernel
theorem dX12_matchIs_43 : decode cX12_matchIs 43 = .ok (.invokevirtual 320, 3) := by decide +kernel
theorem dX12_matchIs_46 : decode cX12_matchIs 46 = .ok (.aload_n 0, 1) := by decide +kernel
theorem dX12_matchIs_47 : decode cX12_matchIs 47 = .ok (.getfield 36, 3) := by decide +kernel
theorem dX12_matchIs_50 : decode cX12_matchIs 50 = .ok (.ifCond .ne 129, 3) := by decide +kernel
theorem dX12_matchIs_53 : decode cX12_matchIs 53 = .ok (.aload_n 0, 1) := by decide +kernel
theorem dX12_matchIs_54 : decode cX12_matchIs 54 = .ok (.invokevirtual 389, 3) := by decide +kernel
theorem dX12_matchIs_57 : decode cX12_matchIs 57 = .ok (.ifCond .eq 122, 3) := by decide +kernel
theorem dX12_matchIs_60 : decode cX12_matchIs 60 = .ok (.aload_n 0, 1) := by decide +kernel
theorem dX12_matchIs_61 : decode cX12_matchIs 61 = .ok (.getfield 81, 3) := by decide +kernel
theorem dX12_matchIs_64 : decode cX12_matchIs 64 = .ok (.aload_n 0, 1) := by decide +kernel
theorem dX12_matchIs_65 : decode cX12_matchIs 65 = .ok (.getfield 124, 3) := by decide +kernel
theorem dX12_matchIs_68 : decode cX12_matchIs 68 = .ok (.iaload, 1) := by decide +kernel
theorem dX12_matchIs_69 : decode cX12_matchIs 69 = .ok (.iconst 4, 1) := by decide +kernel
theorem dX12_matchIs_70 : decode cX12_matchIs 70 = .ok (.if_icmp .ne 13, 3) := by decide +kernel
theorem dX12_matchIs_73 : decode cX12_matchIs 73 = .ok (.aload_n 0, 1) := by decide +kernel
theorem dX12_matchIs_74 : decode cX12_matchIs 74 = .ok (.bipush 6, 2) := by decide +kernel
theorem dX12_matchIs_76 : decode cX12_matchIs 76 = .ok (.aload_n 0, 1) := by decide +kernel
theorem dX12_matchIs_77 : decode cX12_matchIs 77 = .ok (.getfield 23, 3) := by decide +kernel
theorem dX12_matchIs_80 : decode cX12_matchIs 80 = .ok (.invokevirtual 320, 3) := by decide +kernel
theorem dX12_matchIs_83 : decode cX12_matchIs 83 = .ok (.aload_n 0, 1) := by decide +kernel
theorem dX12_matchIs_84 : decode cX12_matchIs 84 = .ok (.iconst 4, 1) := by decide +kernel
theorem dX12_matchIs_85 : decode cX12_matchIs 85 = .ok (.invokevirtual 393, 3) := by decide +kernel
theorem dX12_matchIs_88 : decode cX12_matchIs 88 = .ok (.istore_n 2, 1) := by decide +kernel
theorem dX12_matchIs_89 : decode cX12_matchIs 89 = .ok (.aload_n 0, 1) := by decide +kernel
theorem dX12_matchIs_90 : decode cX12_matchIs 90 = .ok (.getfield 36, 3) := by decide +kernel
theorem dX12_matchIs_93 : decode cX12_matchIs 93 = .ok (.ifCond .le 4, 3) := by decide +kernel
theorem dX12_matchIs_96 : decode cX12_matchIs 96 = .ok (.return_, 1) := by decide +kernel
theorem dX12_matchIs_97 : decode cX12_matchIs 97 = .ok (.aload_n 0, 1) := by decide +kernel
theorem dX12_matchIs_98 : decode cX12_matchIs 98 = .ok (.getfield 84, 3) := by decide +kernel
theorem dX12_matchIs_101 : decode cX12_matchIs 101 = .ok (.iconst 4, 1) := by decide +kernel
theorem dX12_matchIs_102 : decode cX12_matchIs 102 = .ok (.aload_n 0, 1) := by decide +kernel
theorem dX12_matchIs_103 : decode cX12_matchIs 103 = .ok (.getfield 124, 3) := by decide +kernel
theorem dX12_matchIs_106 : decode cX12_matchIs 106 = .ok (.imul, 1) := by decide +kernel
theorem dX12_matchIs_107 : decode cX12_matchIs 107 = .ok (.aload_n 0, 1) := by decide +kernel
theorem dX12_matchIs_108 : decode cX12_matchIs 108 = .ok (.getfield 81, 3) := by decide +kernel
theorem dX12_matchIs_111 : decode cX12_matchIs 111 = .ok (.aload_n 0, 1) := by decide +kernel
theorem dX12_matchIs_112 : decode cX12_matchIs 112 = .ok (.getfield 124, 3) := by decide +kernel
theorem dX12_matchIs_115 : decode cX12_matchIs 115 = .ok (.iaload, 1) := by decide +kernel
theorem dX12_matchIs_116 : decode cX12_matchIs 116 = .ok (.iadd, 1) := by decide +kernel
theorem dX12_matchIs_117 : decode cX12_matchIs 117 = .ok (.iload_n 2, 1) := by decide +kernel
theorem dX12_matchIs_118 : decode cX12_matchIs 118 = .ok (.iastore, 1) := by decide +kernel
theorem dX12_matchIs_119 : decode cX12_matchIs 119 = .ok (.aload_n 0, 1) := by decide +kernel
theorem dX12_matchIs_120 : decode cX12_matchIs 120 = .ok (.getfield 81, 3) := by decide +kernel
theorem dX12_matchIs_123 : decode cX12_matchIs 123 = .ok (.aload_n 0, 1) := by decide +kernel
theorem dX12_matchIs_124 : decode cX12_matchIs 124 = .ok (.getfield 124, 3) := by decide +kernel
theorem dX12_matchIs_127 : decode cX12_matchIs 127 = .ok (.dup2, 1) := by decide +kernel
theorem dX12_matchIs_128 : decode cX12_matchIs 128 = .ok (.iaload, 1) := by decide +kernel
theorem dX12_matchIs_129 : decode cX12_matchIs 129 = .ok (.iconst 1, 1) := by decide +kernel
theorem dX12_matchIs_130 : decode cX12_matchIs 130 = .ok (.iadd, 1) := by decide +kernel
theorem dX12_matchIs_131 : decode cX12_matchIs 131 = .ok (.iastore, 1) := by decide +kernel
theorem dX12_matchIs_132 : decode cX12_matchIs 132 = .ok (.iload_n 1, 1) := by decide +kernel
theorem dX12_matchIs_133 : decode cX12_matchIs 133 = .ok (.aload_n 0, 1) := by decide +kernel
theorem dX12_matchIs_134 : decode cX12_matchIs 134 = .ok (.aload_n 0, 1) := by decide +kernel
theorem dX12_matchIs_135 : decode cX12_matchIs 135 = .ok (.getfield 124, 3) := by decide +kernel
theorem dX12_matchIs_138 : decode cX12_matchIs 138 = .ok (.iload_n 2, 1) := by decide +kernel
theorem dX12_matchIs_139 : decode cX12_matchIs 139 = .ok (.invokevirtual 396, 3) := by decide +kernel
theorem dX12_matchIs_142 : decode cX12_matchIs 142 = .ok (.imul, 1) := by decide +kernel
theorem dX12_matchIs_143 : decode cX12_matchIs 143 = .ok (.istore_n 1, 1) := by decide +kernel
theorem dX12_matchIs_144 : decode cX12_matchIs 144 = .ok (.iload_n 1, 1) := by decide +kernel
theorem dX12_matchIs_145 : decode cX12_matchIs 145 = .ok (.sipush 20000, 3) := by decide +kernel
theorem dX12_matchIs_148 : decode cX12_matchIs 148 = .ok (.if_icmp .le 12, 3) := by decide +kernel
theorem dX12_matchIs_151 : decode cX12_matchIs 151 = .ok (.aload_n 0, 1) := by decide +kernel
theorem dX12_matchIs_152 : decode cX12_matchIs 152 = .ok (.iconst 4, 1) := by decide +kernel
theorem dX12_matchIs_153 : decode cX12_matchIs 153 = .ok (.aload_n 0, 1) := by decide +kernel
theorem dX12_matchIs_154 : decode cX12_matchIs 154 = .ok (.getfield 23, 3) := by decide +kernel
theorem dX12_matchIs_157 : decode cX12_matchIs 157 = .ok (.invokevirtual 320, 3) := by decide +kernel
theorem dX12_matchIs_160 : decode cX12_matchIs 160 = .ok (.aload_n 0, 1) := by decide +kernel
theorem dX12_matchIs_161 : decode cX12_matchIs 161 = .ok (.getfield 36, 3) := by decide +kernel
theorem dX12_matchIs_164 : decode cX12_matchIs 164 = .ok (.ifCond .le 4, 3) := by decide +kernel
theorem dX12_matchIs_167 : decode cX12_matchIs 167 = .ok (.return_, 1) := by decide +kernel
theorem dX12_matchIs_168 : decode cX12_matchIs 168 = .ok (.aload_n 0, 1) := by decide +kernel
theorem dX12_matchIs_169 : decode cX12_matchIs 169 = .ok (.invokevirtual 337, 3) := by decide +kernel
theorem dX12_matchIs_172 : decode cX12_matchIs 172 = .ok (.aload_n 0, 1) := by decide +kernel
theorem dX12_matchIs_173 : decode cX12_matchIs 173 = .ok (.invokevirtual 331, 3) := by decide +kernel
theorem dX12_matchIs_176 : decode cX12_matchIs 176 = .ok (.goto (-130), 3) := by decide +kernel
theorem dX12_matchIs_179 : decode cX12_matchIs 179 = .ok (.return_, 1) := by decide +kernel
theorem dX12_emits_0 : decode cX12_emits 0 = .ok (.sipush 2800, 3) := by decide +kernel
theorem dX12_emits_3 : decode cX12_emits 3 = .ok (.aload_n 0, 1) := by decide +kernel
theorem dX12_emits_4 : decode cX12_emits 4 = .ok (.getfield 124, 3) := by decide +kernel
theorem dX12_emits_7 : decode cX12_emits 7 = .ok (.imul, 1) := by decide +kernel
theorem dX12_emits_8 : decode cX12_emits 8 = .ok (.aload_n 0, 1) := by decide +kernel
theorem dX12_emits_9 : decode cX12_emits 9 = .ok (.getfield 121, 3) := by decide +kernel
theorem dX12_emits_12 : decode cX12_emits 12 = .ok (.iadd, 1) := by decide +kernel
theorem dX12_emits_13 : decode cX12_emits 13 = .ok (.istore 4, 2) := by decide +kernel
theorem dX12_emits_15 : decode cX12_emits 15 = .ok (.aload_n 0, 1) := by decide +kernel
theorem dX12_emits_16 : decode cX12_emits 16 = .ok (.getfield 105, 3) := by decide +kernel
theorem dX12_emits_19 : decode cX12_emits 19 = .ok (.iload 4, 2) := by decide +kernel
theorem dX12_emits_21 : decode cX12_emits 21 = .ok (.iload_n 1, 1) := by decide +kernel
theorem dX12_emits_22 : decode cX12_emits 22 = .ok (.iastore, 1) := by decide +kernel
theorem dX12_emits_23 : decode cX12_emits 23 = .ok (.aload_n 0, 1) := by decide +kernel
theorem dX12_emits_24 : decode cX12_emits 24 = .ok (.getfield 108, 3) := by decide +kernel
theorem dX12_emits_27 : decode cX12_emits 27 = .ok (.iload 4, 2) := by decide +kernel
theorem dX12_emits_29 : decode cX12_emits 29 = .ok (.iload_n 2, 1) := by decide +kernel
theorem dX12_emits_30 : decode cX12_emits 30 = .ok (.iastore, 1) := by decide +kernel
theorem dX12_emits_31 : decode cX12_emits 31 = .ok (.aload_n 0, 1) := by decide +kernel
theorem dX12_emits_32 : decode cX12_emits 32 = .ok (.getfield 111, 3) := by decide +kernel
theorem dX12_emits_35 : decode cX12_emits 35 = .ok (.iload 4, 2) := by decide +kernel
theorem dX12_emits_37 : decode cX12_emits 37 = .ok (.iload_n 3, 1) := by decide +kernel
theorem dX12_emits_38 : decode cX12_emits 38 = .ok (.iastore, 1) := by decide +kernel
theorem dX12_emits_39 : decode cX12_emits 39 = .ok (.aload_n 0, 1) := by decide +kernel
theorem dX12_emits_40 : decode cX12_emits 40 = .ok (.dup, 1) := by decide +kernel
theorem dX12_emits_41 : decode cX12_emits 41 = .ok (.getfield 121, 3) := by decide +kernel
theorem dX12_emits_44 : decode cX12_emits 44 = .ok (.iconst 1, 1) := by decide +kernel
theorem dX12_emits_45 : decode cX12_emits 45 = .ok (.iadd, 1) := by decide +kernel
theorem dX12_emits_46 : decode cX12_emits 46 = .ok (.putfield 121, 3) := by decide +kernel
theorem dX12_emits_49 : decode cX12_emits 49 = .ok (.return_, 1) := by decide +kernel
theorem dX12_opensPattern_0 : decode cX12_opensPattern 0 = .ok (.aload_n 0, 1) := by decide +kernel
theorem dX12_opensPattern_1 : decode cX12_opensPattern 1 = .ok (.dup, 1) := by decide +kernel
theorem dX12_opensPattern_2 : decode cX12_opensPattern 2 = .ok (.getfield 143, 3) := by decide +kernel
theorem dX12_opensPattern_5 : decode cX12_opensPattern 5 = .ok (.iconst 1, 1) := by decide +kernel
theorem dX12_opensPattern_6 : decode cX12_opensPattern 6 = .ok (.iadd, 1) := by decide +kernel
theorem dX12_opensPattern_7 : decode cX12_opensPattern 7 = .ok (.putfield 143, 3) := by decide +kernel
theorem dX12_opensPattern_10 : decode cX12_opensPattern 10 = .ok (.aload_n 0, 1) := by decide +kernel
theorem dX12_opensPattern_11 : decode cX12_opensPattern 11 = .ok (.getfield 131, 3) := by decide +kernel
theorem dX12_opensPattern_14 : decode cX12_opensPattern 14 = .ok (.aload_n 0, 1) := by decide +kernel
theorem dX12_opensPattern_15 : decode cX12_opensPattern 15 = .ok (.getfield 143, 3) := by decide +kernel
theorem dX12_opensPattern_18 : decode cX12_opensPattern 18 = .ok (.iload_n 1, 1) := by decide +kernel
theorem dX12_opensPattern_19 : decode cX12_opensPattern 19 = .ok (.iastore, 1) := by decide +kernel
theorem dX12_opensPattern_20 : decode cX12_opensPattern 20 = .ok (.aload_n 0, 1) := by decide +kernel
theorem dX12_opensPattern_21 : decode cX12_opensPattern 21 = .ok (.getfield 134, 3) := by decide +kernel
theorem dX12_opensPattern_24 : decode cX12_opensPattern 24 = .ok (.aload_n 0, 1) := by decide +kernel
theorem dX12_opensPattern_25 : decode cX12_opensPattern 25 = .ok (.getfield 143, 3) := by decide +kernel
theorem dX12_opensPattern_28 : decode cX12_opensPattern 28 = .ok (.iconst 0, 1) := by decide +kernel
theorem dX12_opensPattern_29 : decode cX12_opensPattern 29 = .ok (.iastore, 1) := by decide +kernel
theorem dX12_opensPattern_30 : decode cX12_opensPattern 30 = .ok (.return_, 1) := by decide +kernel
theorem dX12_fieldBegins_0 : decode cX12_fieldBegins 0 = .ok (.aload_n 0, 1) := by decide +kernel
theorem dX12_fieldBegins_1 : decode cX12_fieldBegins 1 = .ok (.getfield 137, 3) := by decide +kernel
theorem dX12_fieldBegins_4 : decode cX12_fieldBegins 4 = .ok (.aload_n 0, 1) := by decide +kernel
theorem dX12_fieldBegins_5 : decode cX12_fieldBegins 5 = .ok (.getfield 143, 3) := by decide +kernel
theorem dX12_fieldBegins_8 : decode cX12_fieldBegins 8 = .ok (.iload_n 1, 1) := by decide +kernel
theorem dX12_fieldBegins_9 : decode cX12_fieldBegins 9 = .ok (.iastore, 1) := by decide +kernel
theorem dX12_fieldBegins_10 : decode cX12_fieldBegins 10 = .ok (.aload_n 0, 1) := by decide +kernel
theorem dX12_fieldBegins_11 : decode cX12_fieldBegins 11 = .ok (.getfield 140, 3) := by decide +kernel
theorem dX12_fieldBegins_14 : decode cX12_fieldBegins 14 = .ok (.aload_n 0, 1) := by decide +kernel
theorem dX12_fieldBegins_15 : decode cX12_fieldBegins 15 = .ok (.getfield 143, 3) := by decide +kernel
theorem dX12_fieldBegins_18 : decode cX12_fieldBegins 18 = .ok (.iload_n 2, 1) := by decide +kernel
theorem dX12_fieldBegins_19 : decode cX12_fieldBegins 19 = .ok (.iastore, 1) := by decide +kernel
theorem dX12_fieldBegins_20 : decode cX12_fieldBegins 20 = .ok (.aload_n 0, 1) := by decide +kernel
theorem dX12_fieldBegins_21 : decode cX12_fieldBegins 21 = .ok (.iconst 3, 1) := by decide +kernel
theorem dX12_fieldBegins_22 : decode cX12_fieldBegins 22 = .ok (.iload_n 1, 1) := by decide +kernel
theorem dX12_fieldBegins_23 : decode cX12_fieldBegins 23 = .ok (.iload_n 2, 1) := by decide +kernel
theorem dX12_fieldBegins_24 : decode cX12_fieldBegins 24 = .ok (.invokevirtual 400, 3) := by decide +kernel
theorem dX12_fieldBegins_27 : decode cX12_fieldBegins 27 = .ok (.aload_n 0, 1) := by decide +kernel
theorem dX12_fieldBegins_28 : decode cX12_fieldBegins 28 = .ok (.aload_n 0, 1) := by decide +kernel
theorem dX12_fieldBegins_29 : decode cX12_fieldBegins 29 = .ok (.getfield 72, 3) := by decide +kernel
theorem dX12_fieldBegins_32 : decode cX12_fieldBegins 32 = .ok (.iconst 2, 1) := by decide +kernel
theorem dX12_fieldBegins_33 : decode cX12_fieldBegins 33 = .ok (.bipush 24, 2) := by decide +kernel
theorem dX12_fieldBegins_35 : decode cX12_fieldBegins 35 = .ok (.aload_n 0, 1) := by decide +kernel
theorem dX12_fieldBegins_36 : decode cX12_fieldBegins 36 = .ok (.getfield 124, 3) := by decide +kernel
theorem dX12_fieldBegins_39 : decode cX12_fieldBegins 39 = .ok (.imul, 1) := by decide +kernel
theorem dX12_fieldBegins_40 : decode cX12_fieldBegins 40 = .ok (.iload_n 1, 1) := by decide +kernel
theorem dX12_fieldBegins_41 : decode cX12_fieldBegins 41 = .ok (.iadd, 1) := by decide +kernel
theorem dX12_fieldBegins_42 : decode cX12_fieldBegins 42 = .ok (.imul, 1) := by decide +kernel
theorem dX12_fieldBegins_43 : decode cX12_fieldBegins 43 = .ok (.iload_n 2, 1) := by decide +kernel
theorem dX12_fieldBegins_44 : decode cX12_fieldBegins 44 = .ok (.iadd, 1) := by decide +kernel
theorem dX12_fieldBegins_45 : decode cX12_fieldBegins 45 = .ok (.iaload, 1) := by decide +kernel
theorem dX12_fieldBegins_46 : decode cX12_fieldBegins 46 = .ok (.invokevirtual 404, 3) := by decide +kernel
theorem dX12_fieldBegins_49 : decode cX12_fieldBegins 49 = .ok (.return_, 1) := by decide +kernel
theorem dX12_range_0 : decode cX12_range 0 = .ok (.aload_n 0, 1) := by decide +kernel
theorem dX12_range_1 : decode cX12_range 1 = .ok (.iconst 0, 1) := by decide +kernel
theorem dX12_range_2 : decode cX12_range 2 = .ok (.bipush 19, 2) := by decide +kernel
theorem dX12_range_4 : decode cX12_range 4 = .ok (.invokevirtual 407, 3) := by decide +kernel
theorem dX12_range_7 : decode cX12_range 7 = .ok (.istore_n 1, 1) := by decide +kernel
theorem dX12_range_8 : decode cX12_range 8 = .ok (.aload_n 0, 1) := by decide +kernel
theorem dX12_range_9 : decode cX12_range 9 = .ok (.getfield 36, 3) := by decide +kernel
theorem dX12_range_12 : decode cX12_range 12 = .ok (.ifCond .le 4, 3) := by decide +kernel
theorem dX12_range_15 : decode cX12_range 15 = .ok (.return_, 1) := by decide +kernel
theorem dX12_range_16 : decode cX12_range 16 = .ok (.aload_n 0, 1) := by decide +kernel
theorem dX12_range_17 : decode cX12_range 17 = .ok (.invokevirtual 331, 3) := by decide +kernel
theorem dX12_range_20 : decode cX12_range 20 = .ok (.iload_n 1, 1) := by decide +kernel
theorem dX12_range_21 : decode cX12_range 21 = .ok (.istore_n 2, 1) := by decide +kernel
theorem dX12_range_22 : decode cX12_range 22 = .ok (.aload_n 0, 1) := by decide +kernel
theorem dX12_range_23 : decode cX12_range 23 = .ok (.getfield 36, 3) := by decide +kernel
theorem dX12_range_26 : decode cX12_range 26 = .ok (.ifCond .ne 25, 3) := by decide +kernel
theorem dX12_range_29 : decode cX12_range 29 = .ok (.aload_n 0, 1) := by decide +kernel
theorem dX12_range_30 : decode cX12_range 30 = .ok (.ldc2_w 360, 3) := by decide +kernel
theorem dX12_range_33 : decode cX12_range 33 = .ok (.invokevirtual 386, 3) := by decide +kernel
theorem dX12_range_36 : decode cX12_range 36 = .ok (.ifCond .eq 15, 3) := by decide +kernel
theorem dX12_range_39 : decode cX12_range 39 = .ok (.aload_n 0, 1) := by decide +kernel
theorem dX12_range_40 : decode cX12_range 40 = .ok (.invokevirtual 337, 3) := by decide +kernel
theorem dX12_range_43 : decode cX12_range 43 = .ok (.aload_n 0, 1) := by decide +kernel
theorem dX12_range_44 : decode cX12_range 44 = .ok (.iload_n 1, 1) := by decide +kernel
theorem dX12_range_45 : decode cX12_range 45 = .ok (.bipush 19, 2) := by decide +kernel
theorem dX12_range_47 : decode cX12_range 47 = .ok (.invokevirtual 407, 3) := by decide +kernel
theorem dX12_range_50 : decode cX12_range 50 = .ok (.istore_n 2, 1) := by decide +kernel
theorem dX12_range_51 : decode cX12_range 51 = .ok (.aload_n 0, 1) := by decide +kernel
theorem dX12_range_52 : decode cX12_range 52 = .ok (.getfield 36, 3) := by decide +kernel
theorem dX12_range_55 : decode cX12_range 55 = .ok (.ifCond .ne 10, 3) := by decide +kernel
theorem dX12_range_58 : decode cX12_range 58 = .ok (.aload_n 0, 1) := by decide +kernel
theorem dX12_range_59 : decode cX12_range 59 = .ok (.iconst 1, 1) := by decide +kernel
theorem dX12_range_60 : decode cX12_range 60 = .ok (.iload_n 1, 1) := by decide +kernel
theorem dX12_range_61 : decode cX12_range 61 = .ok (.iload_n 2, 1) := by decide +kernel
theorem dX12_range_62 : decode cX12_range 62 = .ok (.invokevirtual 400, 3) := by decide +kernel
theorem dX12_range_65 : decode cX12_range 65 = .ok (.return_, 1) := by decide +kernel
theorem dX12_alternative_0 : decode cX12_alternative 0 = .ok (.aload_n 0, 1) := by decide +kernel
theorem dX12_alternative_1 : decode cX12_alternative 1 = .ok (.invokevirtual 331, 3) := by decide +kernel
theorem dX12_alternative_4 : decode cX12_alternative 4 = .ok (.aload_n 0, 1) := by decide +kernel
theorem dX12_alternative_5 : decode cX12_alternative 5 = .ok (.getfield 36, 3) := by decide +kernel
theorem dX12_alternative_8 : decode cX12_alternative 8 = .ok (.ifCond .le 5, 3) := by decide +kernel
theorem dX12_alternative_11 : decode cX12_alternative 11 = .ok (.iconst 1, 1) := by decide +kernel
theorem dX12_alternative_12 : decode cX12_alternative 12 = .ok (.ireturn, 1) := by decide +kernel
theorem dX12_alternative_13 : decode cX12_alternative 13 = .ok (.aload_n 0, 1) := by decide +kernel
theorem dX12_alternative_14 : decode cX12_alternative 14 = .ok (.ldc2_w 356, 3) := by decide +kernel
theorem dX12_alternative_17 : decode cX12_alternative 17 = .ok (.invokevirtual 386, 3) := by decide +kernel
theorem dX12_alternative_20 : decode cX12_alternative 20 = .ok (.ifCond .eq 16, 3) := by decide +kernel
theorem dX12_alternative_23 : decode cX12_alternative 23 = .ok (.aload_n 0, 1) := by decide +kernel
theorem dX12_alternative_24 : decode cX12_alternative 24 = .ok (.invokevirtual 337, 3) := by decide +kernel
theorem dX12_alternative_27 : decode cX12_alternative 27 = .ok (.aload_n 0, 1) := by decide +kernel
theorem dX12_alternative_28 : decode cX12_alternative 28 = .ok (.iconst 0, 1) := by decide +kernel
theorem dX12_alternative_29 : decode cX12_alternative 29 = .ok (.iconst 0, 1) := by decide +kernel
theorem dX12_alternative_30 : decode cX12_alternative 30 = .ok (.iconst 0, 1) := by decide +kernel
theorem dX12_alternative_31 : decode cX12_alternative 31 = .ok (.invokevirtual 400, 3) := by decide +kernel
theorem dX12_alternative_34 : decode cX12_alternative 34 = .ok (.iconst 1, 1) := by decide +kernel
theorem dX12_alternative_35 : decode cX12_alternative 35 = .ok (.ireturn, 1) := by decide +kernel
theorem dX12_alternative_36 : decode cX12_alternative 36 = .ok (.aload_n 0, 1) := by decide +kernel
theorem dX12_alternative_37 : decode cX12_alternative 37 = .ok (.getfield 131, 3) := by decide +kernel
theorem dX12_alternative_40 : decode cX12_alternative 40 = .ok (.aload_n 0, 1) := by decide +kernel
theorem dX12_alternative_41 : decode cX12_alternative 41 = .ok (.getfield 143, 3) := by decide +kernel
theorem dX12_alternative_44 : decode cX12_alternative 44 = .ok (.iaload, 1) := by decide +kernel
theorem dX12_alternative_45 : decode cX12_alternative 45 = .ok (.istore_n 1, 1) := by decide +kernel
theorem dX12_alternative_46 : decode cX12_alternative 46 = .ok (.iload_n 1, 1) := by decide +kernel
theorem dX12_alternative_47 : decode cX12_alternative 47 = .ok (.iconst 4, 1) := by decide +kernel
theorem dX12_alternative_48 : decode cX12_alternative 48 = .ok (.if_icmp .ne 9, 3) := by decide +kernel
theorem dX12_alternative_51 : decode cX12_alternative 51 = .ok (.aload_n 0, 1) := by decide +kernel
theorem dX12_alternative_52 : decode cX12_alternative 52 = .ok (.invokevirtual 410, 3) := by decide +kernel
theorem dX12_alternative_55 : decode cX12_alternative 55 = .ok (.iconst 1, 1) := by decide +kernel
theorem dX12_alternative_56 : decode cX12_alternative 56 = .ok (.ireturn, 1) := by decide +kernel
theorem dX12_alternative_57 : decode cX12_alternative 57 = .ok (.aload_n 0, 1) := by decide +kernel
theorem dX12_alternative_58 : decode cX12_alternative 58 = .ok (.getfield 20, 3) := by decide +kernel
theorem dX12_alternative_61 : decode cX12_alternative 61 = .ok (.iconst 1, 1) := by decide +kernel
theorem dX12_alternative_62 : decode cX12_alternative 62 = .ok (.if_icmp .ne 14, 3) := by decide +kernel
theorem dX12_alternative_65 : decode cX12_alternative 65 = .ok (.aload_n 0, 1) := by decide +kernel
theorem dX12_alternative_66 : decode cX12_alternative 66 = .ok (.aload_n 0, 1) := by decide +kernel
theorem dX12_alternative_67 : decode cX12_alternative 67 = .ok (.getfield 32, 3) := by decide +kernel
theorem dX12_alternative_70 : decode cX12_alternative 70 = .ok (.invokevirtual 366, 3) := by decide +kernel
theorem dX12_alternative_73 : decode cX12_alternative 73 = .ok (.ifCond .eq 12, 3) := by decide +kernel
theorem dX12_alternative_76 : decode cX12_alternative 76 = .ok (.aload_n 0, 1) := by decide +kernel
theorem dX12_alternative_77 : decode cX12_alternative 77 = .ok (.iconst 1, 1) := by decide +kernel
theorem dX12_alternative_78 : decode cX12_alternative 78 = .ok (.aload_n 0, 1) := by decide +kernel
theorem dX12_alternative_79 : decode cX12_alternative 79 = .ok (.getfield 23, 3) := by decide +kernel
theorem dX12_alternative_82 : decode cX12_alternative 82 = .ok (.invokevirtual 320, 3) := by decide +kernel
theorem dX12_alternative_85 : decode cX12_alternative 85 = .ok (.aload_n 0, 1) := by decide +kernel
theorem dX12_alternative_86 : decode cX12_alternative 86 = .ok (.getfield 36, 3) := by decide +kernel
theorem dX12_alternative_89 : decode cX12_alternative 89 = .ok (.ifCond .le 7, 3) := by decide +kernel
theorem dX12_alternative_92 : decode cX12_alternative 92 = .ok (.iconst (-1), 1) := by decide +kernel
theorem dX12_alternative_93 : decode cX12_alternative 93 = .ok (.goto 15, 3) := by decide +kernel
theorem dX12_alternative_96 : decode cX12_alternative 96 = .ok (.aload_n 0, 1) := by decide +kernel
theorem dX12_alternative_97 : decode cX12_alternative 97 = .ok (.aload_n 0, 1) := by decide +kernel
theorem dX12_alternative_98 : decode cX12_alternative 98 = .ok (.getfield 124, 3) := by decide +kernel
theorem dX12_alternative_101 : decode cX12_alternative 101 = .ok (.aload_n 0, 1) := by decide +kernel
theorem dX12_alternative_102 : decode cX12_alternative 102 = .ok (.getfield 32, 3) := by decide +kernel
theorem dX12_alternative_105 : decode cX12_alternative 105 = .ok (.invokevirtual 374, 3) := by decide +kernel
theorem dX12_alternative_108 : decode cX12_alternative 108 = .ok (.istore_n 2, 1) := by decide +kernel
theorem dX12_alternative_109 : decode cX12_alternative 109 = .ok (.aload_n 0, 1) := by decide +kernel
theorem dX12_alternative_110 : decode cX12_alternative 110 = .ok (.getfield 36, 3) := by decide +kernel
theorem dX12_alternative_113 : decode cX12_alternative 113 = .ok (.ifCond .ne 35, 3) := by decide +kernel
theorem dX12_alternative_116 : decode cX12_alternative 116 = .ok (.iload_n 2, 1) := by decide +kernel
theorem dX12_alternative_117 : decode cX12_alternative 117 = .ok (.iconst (-1), 1) := by decide +kernel
theorem dX12_alternative_118 : decode cX12_alternative 118 = .ok (.if_icmp .eq 21, 3) := by decide +kernel
theorem dX12_alternative_121 : decode cX12_alternative 121 = .ok (.aload_n 0, 1) := by decide +kernel
theorem dX12_alternative_122 : decode cX12_alternative 122 = .ok (.getfield 66, 3) := by decide +kernel
theorem dX12_alternative_125 : decode cX12_alternative 125 = .ok (.bipush 24, 2) := by decide +kernel
theorem dX12_alternative_127 : decode cX12_alternative 127 = .ok (.aload_n 0, 1) := by decide +kernel
theorem dX12_alternative_128 : decode cX12_alternative 128 = .ok (.getfield 124, 3) := by decide +kernel
theorem dX12_alternative_131 : decode cX12_alternative 131 = .ok (.imul, 1) := by decide +kernel
theorem dX12_alternative_132 : decode cX12_alternative 132 = .ok (.iload_n 2, 1) := by decide +kernel
theorem dX12_alternative_133 : decode cX12_alternative 133 = .ok (.iadd, 1) := by decide +kernel
theorem dX12_alternative_134 : decode cX12_alternative 134 = .ok (.iaload, 1) := by decide +kernel
theorem dX12_alternative_135 : decode cX12_alternative 135 = .ok (.iload_n 1, 1) := by decide +kernel
theorem dX12_alternative_136 : decode cX12_alternative 136 = .ok (.if_icmp .eq 12, 3) := by decide +kernel
theorem dX12_alternative_139 : decode cX12_alternative 139 = .ok (.aload_n 0, 1) := by decide +kernel
theorem dX12_alternative_140 : decode cX12_alternative 140 = .ok (.iconst 3, 1) := by decide +kernel
theorem dX12_alternative_141 : decode cX12_alternative 141 = .ok (.aload_n 0, 1) := by decide +kernel
theorem dX12_alternative_142 : decode cX12_alternative 142 = .ok (.getfield 23, 3) := by decide +kernel
theorem dX12_alternative_145 : decode cX12_alternative 145 = .ok (.invokevirtual 320, 3) := by decide +kernel
theorem dX12_alternative_148 : decode cX12_alternative 148 = .ok (.aload_n 0, 1) := by decide +kernel
theorem dX12_alternative_149 : decode cX12_alternative 149 = .ok (.getfield 36, 3) := by decide +kernel
theorem dX12_alternative_152 : decode cX12_alternative 152 = .ok (.ifCond .le 5, 3) := by decide +kernel
theorem dX12_alternative_155 : decode cX12_alternative 155 = .ok (.iconst 1, 1) := by decide +kernel
theorem dX12_alternative_156 : decode cX12_alternative 156 = .ok (.ireturn, 1) := by decide +kernel
theorem dX12_alternative_157 : decode cX12_alternative 157 = .ok (.aload_n 0, 1) := by decide +kernel
theorem dX12_alternative_158 : decode cX12_alternative 158 = .ok (.invokevirtual 337, 3) := by decide +kernel
theorem dX12_alternative_161 : decode cX12_alternative 161 = .ok (.aload_n 0, 1) := by decide +kernel
theorem dX12_alternative_162 : decode cX12_alternative 162 = .ok (.iconst 2, 1) := by decide +kernel
theorem dX12_alternative_163 : decode cX12_alternative 163 = .ok (.iload_n 2, 1) := by decide +kernel
theorem dX12_alternative_164 : decode cX12_alternative 164 = .ok (.iconst 0, 1) := by decide +kernel
theorem dX12_alternative_165 : decode cX12_alternative 165 = .ok (.invokevirtual 400, 3) := by decide +kernel
theorem dX12_alternative_168 : decode cX12_alternative 168 = .ok (.aload_n 0, 1) := by decide +kernel
theorem dX12_alternative_169 : decode cX12_alternative 169 = .ok (.getfield 69, 3) := by decide +kernel
theorem dX12_alternative_172 : decode cX12_alternative 172 = .ok (.bipush 24, 2) := by decide +kernel
theorem dX12_alternative_174 : decode cX12_alternative 174 = .ok (.aload_n 0, 1) := by decide +kernel
theorem dX12_alternative_175 : decode cX12_alternative 175 = .ok (.getfield 124, 3) := by decide +kernel
theorem dX12_alternative_178 : decode cX12_alternative 178 = .ok (.imul, 1) := by decide +kernel
theorem dX12_alternative_179 : decode cX12_alternative 179 = .ok (.iload_n 2, 1) := by decide +kernel
theorem dX12_alternative_180 : decode cX12_alternative 180 = .ok (.iadd, 1) := by decide +kernel
theorem dX12_alternative_181 : decode cX12_alternative 181 = .ok (.iaload, 1) := by decide +kernel
theorem dX12_alternative_182 : decode cX12_alternative 182 = .ok (.ifCond .ne 5, 3) := by decide +kernel
theorem dX12_alternative_185 : decode cX12_alternative 185 = .ok (.iconst 1, 1) := by decide +kernel
theorem dX12_alternative_186 : decode cX12_alternative 186 = .ok (.ireturn, 1) := by decide +kernel
theorem dX12_alternative_187 : decode cX12_alternative 187 = .ok (.aload_n 0, 1) := by decide +kernel
theorem dX12_alternative_188 : decode cX12_alternative 188 = .ok (.bipush 40, 2) := by decide +kernel
theorem dX12_alternative_190 : decode cX12_alternative 190 = .ok (.invokevirtual 413, 3) := by decide +kernel
theorem dX12_alternative_193 : decode cX12_alternative 193 = .ok (.aload_n 0, 1) := by decide +kernel
theorem dX12_alternative_194 : decode cX12_alternative 194 = .ok (.getfield 36, 3) := by decide +kernel
theorem dX12_alternative_197 : decode cX12_alternative 197 = .ok (.ifCond .ne 9, 3) := by decide +kernel
theorem dX12_alternative_200 : decode cX12_alternative 200 = .ok (.aload_n 0, 1) := by decide +kernel
theorem dX12_alternative_201 : decode cX12_alternative 201 = .ok (.iload_n 2, 1) := by decide +kernel
theorem dX12_alternative_202 : decode cX12_alternative 202 = .ok (.iconst 0, 1) := by decide +kernel
theorem dX12_alternative_203 : decode cX12_alternative 203 = .ok (.invokevirtual 416, 3) := by decide +kernel
theorem dX12_alternative_206 : decode cX12_alternative 206 = .ok (.aload_n 0, 1) := by decide +kernel
theorem dX12_alternative_207 : decode cX12_alternative 207 = .ok (.getfield 36, 3) := by decide +kernel
theorem dX12_alternative_210 : decode cX12_alternative 210 = .ok (.ifCond .le 7, 3) := by decide +kernel
theorem dX12_alternative_213 : decode cX12_alternative 213 = .ok (.iconst 1, 1) := by decide +kernel
theorem dX12_alternative_214 : decode cX12_alternative 214 = .ok (.goto 4, 3) := by decide +kernel
theorem dX12_alternative_217 : decode cX12_alternative 217 = .ok (.iconst 0, 1) := by decide +kernel
theorem dX12_alternative_218 : decode cX12_alternative 218 = .ok (.ireturn, 1) := by decide +kernel
theorem dX12_goesOn_0 : decode cX12_goesOn 0 = .ok (.aload_n 0, 1) := by decide +kernel
theorem dX12_goesOn_1 : decode cX12_goesOn 1 = .ok (.getfield 36, 3) := by decide +kernel
theorem dX12_goesOn_4 : decode cX12_goesOn 4 = .ok (.ifCond .ne 188, 3) := by decide +kernel
theorem dX12_goesOn_7 : decode cX12_goesOn 7 = .ok (.aload_n 0, 1) := by decide +kernel
theorem dX12_goesOn_8 : decode cX12_goesOn 8 = .ok (.getfield 134, 3) := by decide +kernel
theorem dX12_goesOn_11 : decode cX12_goesOn 11 = .ok (.aload_n 0, 1) := by decide +kernel
theorem dX12_goesOn_12 : decode cX12_goesOn 12 = .ok (.getfield 143, 3) := by decide +kernel
theorem dX12_goesOn_15 : decode cX12_goesOn 15 = .ok (.iaload, 1) := by decide +kernel
theorem dX12_goesOn_16 : decode cX12_goesOn 16 = .ok (.ifCond .le 11, 3) := by decide +kernel
theorem dX12_goesOn_19 : decode cX12_goesOn 19 = .ok (.aload_n 0, 1) := by decide +kernel
theorem dX12_goesOn_20 : decode cX12_goesOn 20 = .ok (.bipush 6, 2) := by decide +kernel
theorem dX12_goesOn_22 : decode cX12_goesOn 22 = .ok (.iconst 0, 1) := by decide +kernel
theorem dX12_goesOn_23 : decode cX12_goesOn 23 = .ok (.iconst 0, 1) := by decide +kernel
theorem dX12_goesOn_24 : decode cX12_goesOn 24 = .ok (.invokevirtual 400, 3) := by decide +kernel
theorem dX12_goesOn_27 : decode cX12_goesOn 27 = .ok (.aload_n 0, 1) := by decide +kernel
theorem dX12_goesOn_28 : decode cX12_goesOn 28 = .ok (.getfield 134, 3) := by decide +kernel
theorem dX12_goesOn_31 : decode cX12_goesOn 31 = .ok (.aload_n 0, 1) := by decide +kernel
theorem dX12_goesOn_32 : decode cX12_goesOn 32 = .ok (.getfield 143, 3) := by decide +kernel
theorem dX12_goesOn_35 : decode cX12_goesOn 35 = .ok (.dup2, 1) := by decide +kernel
theorem dX12_goesOn_36 : decode cX12_goesOn 36 = .ok (.iaload, 1) := by decide +kernel
theorem dX12_goesOn_37 : decode cX12_goesOn 37 = .ok (.iconst 1, 1) := by decide +kernel
theorem dX12_goesOn_38 : decode cX12_goesOn 38 = .ok (.iadd, 1) := by decide +kernel
theorem dX12_goesOn_39 : decode cX12_goesOn 39 = .ok (.iastore, 1) := by decide +kernel
theorem dX12_goesOn_40 : decode cX12_goesOn 40 = .ok (.aload_n 0, 1) := by decide +kernel
theorem dX12_goesOn_41 : decode cX12_goesOn 41 = .ok (.invokevirtual 331, 3) := by decide +kernel
theorem dX12_goesOn_44 : decode cX12_goesOn 44 = .ok (.aload_n 0, 1) := by decide +kernel
theorem dX12_goesOn_45 : decode cX12_goesOn 45 = .ok (.getfield 36, 3) := by decide +kernel
theorem dX12_goesOn_48 : decode cX12_goesOn 48 = .ok (.ifCond .le 5, 3) := by decide +kernel
theorem dX12_goesOn_51 : decode cX12_goesOn 51 = .ok (.iconst 0, 1) := by decide +kernel
theorem dX12_goesOn_52 : decode cX12_goesOn 52 = .ok (.ireturn, 1) := by decide +kernel
theorem dX12_goesOn_53 : decode cX12_goesOn 53 = .ok (.aload_n 0, 1) := by decide +kernel
theorem dX12_goesOn_54 : decode cX12_goesOn 54 = .ok (.ldc2_w 358, 3) := by decide +kernel
theorem dX12_goesOn_57 : decode cX12_goesOn 57 = .ok (.invokevirtual 386, 3) := by decide +kernel
theorem dX12_goesOn_60 : decode cX12_goesOn 60 = .ok (.ifCond .eq 9, 3) := by decide +kernel
theorem dX12_goesOn_63 : decode cX12_goesOn 63 = .ok (.aload_n 0, 1) := by decide +kernel
theorem dX12_goesOn_64 : decode cX12_goesOn 64 = .ok (.invokevirtual 337, 3) := by decide +kernel
theorem dX12_goesOn_67 : decode cX12_goesOn 67 = .ok (.iconst 1, 1) := by decide +kernel
theorem dX12_goesOn_68 : decode cX12_goesOn 68 = .ok (.ireturn, 1) := by decide +kernel
theorem dX12_goesOn_69 : decode cX12_goesOn 69 = .ok (.aload_n 0, 1) := by decide +kernel
theorem dX12_goesOn_70 : decode cX12_goesOn 70 = .ok (.dup, 1) := by decide +kernel
theorem dX12_goesOn_71 : decode cX12_goesOn 71 = .ok (.getfield 143, 3) := by decide +kernel
theorem dX12_goesOn_74 : decode cX12_goesOn 74 = .ok (.iconst 1, 1) := by decide +kernel
theorem dX12_goesOn_75 : decode cX12_goesOn 75 = .ok (.isub, 1) := by decide +kernel
theorem dX12_goesOn_76 : decode cX12_goesOn 76 = .ok (.putfield 143, 3) := by decide +kernel
theorem dX12_goesOn_79 : decode cX12_goesOn 79 = .ok (.aload_n 0, 1) := by decide +kernel
theorem dX12_goesOn_80 : decode cX12_goesOn 80 = .ok (.getfield 143, 3) := by decide +kernel
theorem dX12_goesOn_83 : decode cX12_goesOn 83 = .ok (.iload_n 1, 1) := by decide +kernel
theorem dX12_goesOn_84 : decode cX12_goesOn 84 = .ok (.if_icmp .ne 5, 3) := by decide +kernel
theorem dX12_goesOn_87 : decode cX12_goesOn 87 = .ok (.iconst 0, 1) := by decide +kernel
theorem dX12_goesOn_88 : decode cX12_goesOn 88 = .ok (.ireturn, 1) := by decide +kernel
theorem dX12_goesOn_89 : decode cX12_goesOn 89 = .ok (.aload_n 0, 1) := by decide +kernel
theorem dX12_goesOn_90 : decode cX12_goesOn 90 = .ok (.iconst 4, 1) := by decide +kernel
theorem dX12_goesOn_91 : decode cX12_goesOn 91 = .ok (.iconst 0, 1) := by decide +kernel
theorem dX12_goesOn_92 : decode cX12_goesOn 92 = .ok (.iconst 0, 1) := by decide +kernel
theorem dX12_goesOn_93 : decode cX12_goesOn 93 = .ok (.invokevirtual 400, 3) := by decide +kernel
theorem dX12_goesOn_96 : decode cX12_goesOn 96 = .ok (.aload_n 0, 1) := by decide +kernel
theorem dX12_goesOn_97 : decode cX12_goesOn 97 = .ok (.iconst 5, 1) := by decide +kernel
theorem dX12_goesOn_98 : decode cX12_goesOn 98 = .ok (.iconst 0, 1) := by decide +kernel
theorem dX12_goesOn_99 : decode cX12_goesOn 99 = .ok (.iconst 0, 1) := by decide +kernel
theorem dX12_goesOn_100 : decode cX12_goesOn 100 = .ok (.invokevirtual 400, 3) := by decide +kernel
theorem dX12_goesOn_103 : decode cX12_goesOn 103 = .ok (.aload_n 0, 1) := by decide +kernel
theorem dX12_goesOn_104 : decode cX12_goesOn 104 = .ok (.getfield 137, 3) := by decide +kernel
theorem dX12_goesOn_107 : decode cX12_goesOn 107 = .ok (.aload_n 0, 1) := by decide +kernel
theorem dX12_goesOn_108 : decode cX12_goesOn 108 = .ok (.getfield 143, 3) := by decide +kernel
theorem dX12_goesOn_111 : decode cX12_goesOn 111 = .ok (.iaload, 1) := by decide +kernel
theorem dX12_goesOn_112 : decode cX12_goesOn 112 = .ok (.istore_n 2, 1) := by decide +kernel
theorem dX12_goesOn_113 : decode cX12_goesOn 113 = .ok (.aload_n 0, 1) := by decide +kernel
theorem dX12_goesOn_114 : decode cX12_goesOn 114 = .ok (.getfield 140, 3) := by decide +kernel
theorem dX12_goesOn_117 : decode cX12_goesOn 117 = .ok (.aload_n 0, 1) := by decide +kernel
theorem dX12_goesOn_118 : decode cX12_goesOn 118 = .ok (.getfield 143, 3) := by decide +kernel
theorem dX12_goesOn_121 : decode cX12_goesOn 121 = .ok (.iaload, 1) := by decide +kernel
theorem dX12_goesOn_122 : decode cX12_goesOn 122 = .ok (.iconst 1, 1) := by decide +kernel
theorem dX12_goesOn_123 : decode cX12_goesOn 123 = .ok (.iadd, 1) := by decide +kernel
theorem dX12_goesOn_124 : decode cX12_goesOn 124 = .ok (.aload_n 0, 1) := by decide +kernel
theorem dX12_goesOn_125 : decode cX12_goesOn 125 = .ok (.getfield 69, 3) := by decide +kernel
theorem dX12_goesOn_128 : decode cX12_goesOn 128 = .ok (.bipush 24, 2) := by decide +kernel
theorem dX12_goesOn_130 : decode cX12_goesOn 130 = .ok (.aload_n 0, 1) := by decide +kernel
theorem dX12_goesOn_131 : decode cX12_goesOn 131 = .ok (.getfield 124, 3) := by decide +kernel
theorem dX12_goesOn_134 : decode cX12_goesOn 134 = .ok (.imul, 1) := by decide +kernel
theorem dX12_goesOn_135 : decode cX12_goesOn 135 = .ok (.iload_n 2, 1) := by decide +kernel
theorem dX12_goesOn_136 : decode cX12_goesOn 136 = .ok (.iadd, 1) := by decide +kernel
theorem dX12_goesOn_137 : decode cX12_goesOn 137 = .ok (.iaload, 1) := by decide +kernel
theorem dX12_goesOn_138 : decode cX12_goesOn 138 = .ok (.if_icmp .ge 45, 3) := by decide +kernel
theorem dX12_goesOn_141 : decode cX12_goesOn 141 = .ok (.aload_n 0, 1) := by decide +kernel
theorem dX12_goesOn_142 : decode cX12_goesOn 142 = .ok (.bipush 44, 2) := by decide +kernel
theorem dX12_goesOn_144 : decode cX12_goesOn 144 = .ok (.invokevirtual 413, 3) := by decide +kernel
theorem dX12_goesOn_147 : decode cX12_goesOn 147 = .ok (.aload_n 0, 1) := by decide +kernel
theorem dX12_goesOn_148 : decode cX12_goesOn 148 = .ok (.getfield 36, 3) := by decide +kernel
theorem dX12_goesOn_151 : decode cX12_goesOn 151 = .ok (.ifCond .ne 19, 3) := by decide +kernel
theorem dX12_goesOn_154 : decode cX12_goesOn 154 = .ok (.aload_n 0, 1) := by decide +kernel
theorem dX12_goesOn_155 : decode cX12_goesOn 155 = .ok (.iload_n 2, 1) := by decide +kernel
theorem dX12_goesOn_156 : decode cX12_goesOn 156 = .ok (.aload_n 0, 1) := by decide +kernel
theorem dX12_goesOn_157 : decode cX12_goesOn 157 = .ok (.getfield 140, 3) := by decide +kernel
theorem dX12_goesOn_160 : decode cX12_goesOn 160 = .ok (.aload_n 0, 1) := by decide +kernel
theorem dX12_goesOn_161 : decode cX12_goesOn 161 = .ok (.getfield 143, 3) := by decide +kernel
theorem dX12_goesOn_164 : decode cX12_goesOn 164 = .ok (.iaload, 1) := by decide +kernel
theorem dX12_goesOn_165 : decode cX12_goesOn 165 = .ok (.iconst 1, 1) := by decide +kernel
theorem dX12_goesOn_166 : decode cX12_goesOn 166 = .ok (.iadd, 1) := by decide +kernel
theorem dX12_goesOn_167 : decode cX12_goesOn 167 = .ok (.invokevirtual 416, 3) := by decide +kernel
theorem dX12_goesOn_170 : decode cX12_goesOn 170 = .ok (.aload_n 0, 1) := by decide +kernel
theorem dX12_goesOn_171 : decode cX12_goesOn 171 = .ok (.getfield 36, 3) := by decide +kernel
