theorem dX12_match_5 : decode cX12_match 5 = .ok (.putfield 17, 3) := by decide +kernel
theorem dX12_match_8 : decode cX12_match 8 = .ok (.aload_n 0, 1) := by decide +kernel
theorem dX12_match_9 : decode cX12_match 9 = .ok (.iconst 0, 1) := by decide +kernel
theorem dX12_match_10 : decode cX12_match 10 = .ok (.putfield 13, 3) := by decide +kernel
theorem dX12_match_13 : decode cX12_match 13 = .ok (.aload_n 0, 1) := by decide +kernel
theorem dX12_match_14 : decode cX12_match 14 = .ok (.iconst 0, 1) := by decide +kernel
theorem dX12_match_15 : decode cX12_match 15 = .ok (.putfield 26, 3) := by decide +kernel
theorem dX12_match_18 : decode cX12_match 18 = .ok (.aload_n 0, 1) := by decide +kernel
theorem dX12_match_19 : decode cX12_match 19 = .ok (.iconst 0, 1) := by decide +kernel
theorem dX12_match_20 : decode cX12_match 20 = .ok (.putfield 36, 3) := by decide +kernel
theorem dX12_match_23 : decode cX12_match 23 = .ok (.aload_n 0, 1) := by decide +kernel
theorem dX12_match_24 : decode cX12_match 24 = .ok (.iconst (-1), 1) := by decide +kernel
theorem dX12_match_25 : decode cX12_match 25 = .ok (.putfield 39, 3) := by decide +kernel
theorem dX12_match_28 : decode cX12_match 28 = .ok (.aload_n 0, 1) := by decide +kernel
theorem dX12_match_29 : decode cX12_match 29 = .ok (.iconst 1, 1) := by decide +kernel
theorem dX12_match_30 : decode cX12_match 30 = .ok (.aload_n 0, 1) := by decide +kernel
theorem dX12_match_31 : decode cX12_match 31 = .ok (.getfield 51, 3) := by decide +kernel
theorem dX12_match_34 : decode cX12_match 34 = .ok (.isub, 1) := by decide +kernel
theorem dX12_match_35 : decode cX12_match 35 = .ok (.putfield 124, 3) := by decide +kernel
theorem dX12_match_38 : decode cX12_match 38 = .ok (.aload_n 0, 1) := by decide +kernel
theorem dX12_match_39 : decode cX12_match 39 = .ok (.getfield 54, 3) := by decide +kernel
theorem dX12_match_42 : decode cX12_match 42 = .ok (.aload_n 0, 1) := by decide +kernel
theorem dX12_match_43 : decode cX12_match 43 = .ok (.getfield 124, 3) := by decide +kernel
theorem dX12_match_46 : decode cX12_match 46 = .ok (.iconst 0, 1) := by decide +kernel
theorem dX12_match_47 : decode cX12_match 47 = .ok (.iastore, 1) := by decide +kernel
theorem dX12_match_48 : decode cX12_match 48 = .ok (.aload_n 0, 1) := by decide +kernel
theorem dX12_match_49 : decode cX12_match 49 = .ok (.getfield 63, 3) := by decide +kernel
theorem dX12_match_52 : decode cX12_match 52 = .ok (.aload_n 0, 1) := by decide +kernel
theorem dX12_match_53 : decode cX12_match 53 = .ok (.getfield 124, 3) := by decide +kernel
theorem dX12_match_56 : decode cX12_match 56 = .ok (.iconst 0, 1) := by decide +kernel
theorem dX12_match_57 : decode cX12_match 57 = .ok (.iastore, 1) := by decide +kernel
theorem dX12_match_58 : decode cX12_match 58 = .ok (.aload_n 0, 1) := by decide +kernel
theorem dX12_match_59 : decode cX12_match 59 = .ok (.getfield 81, 3) := by decide +kernel
theorem dX12_match_62 : decode cX12_match 62 = .ok (.aload_n 0, 1) := by decide +kernel
theorem dX12_match_63 : decode cX12_match 63 = .ok (.getfield 124, 3) := by decide +kernel
theorem dX12_match_66 : decode cX12_match 66 = .ok (.iconst 0, 1) := by decide +kernel
theorem dX12_match_67 : decode cX12_match 67 = .ok (.iastore, 1) := by decide +kernel
theorem dX12_match_68 : decode cX12_match 68 = .ok (.aload_n 0, 1) := by decide +kernel
theorem dX12_match_69 : decode cX12_match 69 = .ok (.getfield 87, 3) := by decide +kernel
theorem dX12_match_72 : decode cX12_match 72 = .ok (.aload_n 0, 1) := by decide +kernel
theorem dX12_match_73 : decode cX12_match 73 = .ok (.getfield 124, 3) := by decide +kernel
theorem dX12_match_76 : decode cX12_match 76 = .ok (.iconst 0, 1) := by decide +kernel
theorem dX12_match_77 : decode cX12_match 77 = .ok (.iastore, 1) := by decide +kernel
theorem dX12_match_78 : decode cX12_match 78 = .ok (.aload_n 0, 1) := by decide +kernel
theorem dX12_match_79 : decode cX12_match 79 = .ok (.getfield 93, 3) := by decide +kernel
theorem dX12_match_82 : decode cX12_match 82 = .ok (.aload_n 0, 1) := by decide +kernel
theorem dX12_match_83 : decode cX12_match 83 = .ok (.getfield 124, 3) := by decide +kernel
theorem dX12_match_86 : decode cX12_match 86 = .ok (.iconst 0, 1) := by decide +kernel
theorem dX12_match_87 : decode cX12_match 87 = .ok (.iastore, 1) := by decide +kernel
theorem dX12_match_88 : decode cX12_match 88 = .ok (.aload_n 0, 1) := by decide +kernel
theorem dX12_match_89 : decode cX12_match 89 = .ok (.getfield 96, 3) := by decide +kernel
theorem dX12_match_92 : decode cX12_match 92 = .ok (.aload_n 0, 1) := by decide +kernel
theorem dX12_match_93 : decode cX12_match 93 = .ok (.getfield 124, 3) := by decide +kernel
theorem dX12_match_96 : decode cX12_match 96 = .ok (.sipush 300, 3) := by decide +kernel
theorem dX12_match_99 : decode cX12_match 99 = .ok (.iastore, 1) := by decide +kernel
theorem dX12_match_100 : decode cX12_match 100 = .ok (.aload_n 0, 1) := by decide +kernel
theorem dX12_match_101 : decode cX12_match 101 = .ok (.iconst 0, 1) := by decide +kernel
theorem dX12_match_102 : decode cX12_match 102 = .ok (.putfield 127, 3) := by decide +kernel
theorem dX12_match_105 : decode cX12_match 105 = .ok (.aload_n 0, 1) := by decide +kernel
theorem dX12_match_106 : decode cX12_match 106 = .ok (.iconst 0, 1) := by decide +kernel
theorem dX12_match_107 : decode cX12_match 107 = .ok (.putfield 121, 3) := by decide +kernel
theorem dX12_match_110 : decode cX12_match 110 = .ok (.iconst 0, 1) := by decide +kernel
theorem dX12_match_111 : decode cX12_match 111 = .ok (.istore_n 1, 1) := by decide +kernel
theorem dX12_match_112 : decode cX12_match 112 = .ok (.aload_n 0, 1) := by decide +kernel
theorem dX12_match_113 : decode cX12_match 113 = .ok (.invokevirtual 337, 3) := by decide +kernel
theorem dX12_match_116 : decode cX12_match 116 = .ok (.aload_n 0, 1) := by decide +kernel
theorem dX12_match_117 : decode cX12_match 117 = .ok (.getfield 36, 3) := by decide +kernel
theorem dX12_match_120 : decode cX12_match 120 = .ok (.ifCond .ne 25, 3) := by decide +kernel
theorem dX12_match_123 : decode cX12_match 123 = .ok (.aload_n 0, 1) := by decide +kernel
theorem dX12_match_124 : decode cX12_match 124 = .ok (.getfield 20, 3) := by decide +kernel
theorem dX12_match_127 : decode cX12_match 127 = .ok (.ifCond .eq 18, 3) := by decide +kernel
theorem dX12_match_145 : decode cX12_match 145 = .ok (.aload_n 0, 1) := by decide +kernel
theorem dX12_match_146 : decode cX12_match 146 = .ok (.getfield 36, 3) := by decide +kernel
theorem dX12_match_149 : decode cX12_match 149 = .ok (.ifCond .ne 19, 3) := by decide +kernel
theorem dX12_match_152 : decode cX12_match 152 = .ok (.aload_n 0, 1) := by decide +kernel
theorem dX12_match_153 : decode cX12_match 153 = .ok (.getfield 127, 3) := by decide +kernel
theorem dX12_match_156 : decode cX12_match 156 = .ok (.ifCond .ne 12, 3) := by decide +kernel
theorem dX12_match_159 : decode cX12_match 159 = .ok (.aload_n 0, 1) := by decide +kernel
theorem dX12_match_160 : decode cX12_match 160 = .ok (.iconst 1, 1) := by decide +kernel
theorem dX12_match_161 : decode cX12_match 161 = .ok (.aload_n 0, 1) := by decide +kernel
theorem dX12_match_162 : decode cX12_match 162 = .ok (.getfield 17, 3) := by decide +kernel
theorem dX12_match_165 : decode cX12_match 165 = .ok (.invokevirtual 320, 3) := by decide +kernel
theorem dX12_match_168 : decode cX12_match 168 = .ok (.aload_n 0, 1) := by decide +kernel
theorem dX12_match_169 : decode cX12_match 169 = .ok (.aload_n 0, 1) := by decide +kernel
theorem dX12_match_170 : decode cX12_match 170 = .ok (.getfield 36, 3) := by decide +kernel
theorem dX12_match_173 : decode cX12_match 173 = .ok (.putfield 42, 3) := by decide +kernel
theorem dX12_match_176 : decode cX12_match 176 = .ok (.aload_n 0, 1) := by decide +kernel
theorem dX12_match_177 : decode cX12_match 177 = .ok (.aload_n 0, 1) := by decide +kernel
theorem dX12_match_178 : decode cX12_match 178 = .ok (.getfield 39, 3) := by decide +kernel
theorem dX12_match_181 : decode cX12_match 181 = .ok (.putfield 45, 3) := by decide +kernel
theorem dX12_match_184 : decode cX12_match 184 = .ok (.aload_n 0, 1) := by decide +kernel
theorem dX12_match_185 : decode cX12_match 185 = .ok (.getfield 36, 3) := by decide +kernel
theorem dX12_match_188 : decode cX12_match 188 = .ok (.ifCond .le 9, 3) := by decide +kernel
theorem dX12_match_191 : decode cX12_match 191 = .ok (.aload_n 0, 1) := by decide +kernel
theorem dX12_match_192 : decode cX12_match 192 = .ok (.iconst 1, 1) := by decide +kernel
theorem dX12_match_193 : decode cX12_match 193 = .ok (.invokevirtual 312, 3) := by decide +kernel
theorem dX12_match_196 : decode cX12_match 196 = .ok (.ireturn, 1) := by decide +kernel
theorem dX12_fault_0 : decode cX12_fault 0 = .ok (.iload_n 1, 1) := by decide +kernel
theorem dX12_fault_1 : decode cX12_fault 1 = .ok (.ifCond .ne 10, 3) := by decide +kernel
theorem dX12_fault_4 : decode cX12_fault 4 = .ok (.aload_n 0, 1) := by decide +kernel
theorem dX12_fault_5 : decode cX12_fault 5 = .ok (.getfield 42, 3) := by decide +kernel
theorem dX12_fault_8 : decode cX12_fault 8 = .ok (.goto 16, 3) := by decide +kernel
theorem dX12_fault_11 : decode cX12_fault 11 = .ok (.iload_n 1, 1) := by decide +kernel
theorem dX12_fault_12 : decode cX12_fault 12 = .ok (.iconst 1, 1) := by decide +kernel
theorem dX12_fault_13 : decode cX12_fault 13 = .ok (.if_icmp .ne 10, 3) := by decide +kernel
theorem dX12_fault_16 : decode cX12_fault 16 = .ok (.aload_n 0, 1) := by decide +kernel
theorem dX12_fault_17 : decode cX12_fault 17 = .ok (.getfield 45, 3) := by decide +kernel
theorem dX12_fault_20 : decode cX12_fault 20 = .ok (.goto 4, 3) := by decide +kernel
theorem dX12_fault_23 : decode cX12_fault 23 = .ok (.iconst (-1), 1) := by decide +kernel
theorem dX12_fault_24 : decode cX12_fault 24 = .ok (.ireturn, 1) := by decide +kernel
theorem dX12_refuses_0 : decode cX12_refuses 0 = .ok (.aload_n 0, 1) := by decide +kernel
theorem dX12_refuses_1 : decode cX12_refuses 1 = .ok (.getfield 149, 3) := by decide +kernel
theorem dX12_refuses_4 : decode cX12_refuses 4 = .ok (.iload_n 1, 1) := by decide +kernel
theorem dX12_refuses_5 : decode cX12_refuses 5 = .ok (.dup2, 1) := by decide +kernel
theorem dX12_refuses_6 : decode cX12_refuses 6 = .ok (.iaload, 1) := by decide +kernel
theorem dX12_refuses_7 : decode cX12_refuses 7 = .ok (.iconst 1, 1) := by decide +kernel
theorem dX12_refuses_8 : decode cX12_refuses 8 = .ok (.iadd, 1) := by decide +kernel
theorem dX12_refuses_9 : decode cX12_refuses 9 = .ok (.iastore, 1) := by decide +kernel
theorem dX12_refuses_10 : decode cX12_refuses 10 = .ok (.iconst (-1), 1) := by decide +kernel
theorem dX12_refuses_11 : decode cX12_refuses 11 = .ok (.ireturn, 1) := by decide +kernel
theorem dX12_status_0 : decode cX12_status 0 = .ok (.iload_n 1, 1) := by decide +kernel
theorem dX12_status_1 : decode cX12_status 1 = .ok (.iconst 0, 1) := by decide +kernel
theorem dX12_status_2 : decode cX12_status 2 = .ok (.iconst 5, 1) := by decide +kernel
theorem dX12_status_3 : decode cX12_status 3 = .ok (.invokestatic 362, 3) := by decide +kernel
theorem dX12_status_6 : decode cX12_status 6 = .ok (.ifCond .eq 12, 3) := by decide +kernel
theorem dX12_status_9 : decode cX12_status 9 = .ok (.aload_n 0, 1) := by decide +kernel
theorem dX12_status_10 : decode cX12_status 10 = .ok (.getfield 149, 3) := by decide +kernel
theorem dX12_status_13 : decode cX12_status 13 = .ok (.iload_n 1, 1) := by decide +kernel
theorem dX12_status_14 : decode cX12_status 14 = .ok (.iaload, 1) := by decide +kernel
theorem dX12_status_15 : decode cX12_status 15 = .ok (.goto 4, 3) := by decide +kernel
theorem dX12_status_18 : decode cX12_status 18 = .ok (.iconst (-1), 1) := by decide +kernel
theorem dX12_status_19 : decode cX12_status 19 = .ok (.ireturn, 1) := by decide +kernel
theorem dX12_columns_0 : decode cX12_columns 0 = .ok (.aload_n 0, 1) := by decide +kernel
theorem dX12_columns_1 : decode cX12_columns 1 = .ok (.getfield 81, 3) := by decide +kernel
theorem dX12_columns_4 : decode cX12_columns 4 = .ok (.aload_n 0, 1) := by decide +kernel
theorem dX12_columns_5 : decode cX12_columns 5 = .ok (.getfield 51, 3) := by decide +kernel
theorem dX12_columns_8 : decode cX12_columns 8 = .ok (.iaload, 1) := by decide +kernel
theorem dX12_columns_9 : decode cX12_columns 9 = .ok (.ireturn, 1) := by decide +kernel
theorem dX12_begin_0 : decode cX12_begin 0 = .ok (.aload_n 0, 1) := by decide +kernel
theorem dX12_begin_1 : decode cX12_begin 1 = .ok (.getfield 173, 3) := by decide +kernel
theorem dX12_begin_4 : decode cX12_begin 4 = .ok (.iconst 0, 1) := by decide +kernel
theorem dX12_begin_5 : decode cX12_begin 5 = .ok (.aload_n 0, 1) := by decide +kernel
theorem dX12_begin_6 : decode cX12_begin 6 = .ok (.getfield 87, 3) := by decide +kernel
theorem dX12_begin_9 : decode cX12_begin 9 = .ok (.aload_n 0, 1) := by decide +kernel
theorem dX12_begin_10 : decode cX12_begin 10 = .ok (.getfield 51, 3) := by decide +kernel
theorem dX12_begin_13 : decode cX12_begin 13 = .ok (.iaload, 1) := by decide +kernel
theorem dX12_begin_14 : decode cX12_begin 14 = .ok (.iastore, 1) := by decide +kernel
theorem dX12_begin_15 : decode cX12_begin 15 = .ok (.iconst 0, 1) := by decide +kernel
theorem dX12_begin_16 : decode cX12_begin 16 = .ok (.istore_n 1, 1) := by decide +kernel
theorem dX12_begin_17 : decode cX12_begin 17 = .ok (.iload_n 1, 1) := by decide +kernel
theorem dX12_begin_18 : decode cX12_begin 18 = .ok (.bipush 12, 2) := by decide +kernel
theorem dX12_begin_20 : decode cX12_begin 20 = .ok (.if_icmp .ge 16, 3) := by decide +kernel
theorem dX12_begin_23 : decode cX12_begin 23 = .ok (.aload_n 0, 1) := by decide +kernel
theorem dX12_begin_24 : decode cX12_begin 24 = .ok (.getfield 176, 3) := by decide +kernel
theorem dX12_begin_27 : decode cX12_begin 27 = .ok (.iload_n 1, 1) := by decide +kernel
theorem dX12_begin_28 : decode cX12_begin 28 = .ok (.iload_n 1, 1) := by decide +kernel
theorem dX12_begin_29 : decode cX12_begin 29 = .ok (.iastore, 1) := by decide +kernel
theorem dX12_begin_30 : decode cX12_begin 30 = .ok (.iinc 1 1, 3) := by decide +kernel
theorem dX12_begin_33 : decode cX12_begin 33 = .ok (.goto (-16), 3) := by decide +kernel
theorem dX12_begin_36 : decode cX12_begin 36 = .ok (.aload_n 0, 1) := by decide +kernel
theorem dX12_begin_37 : decode cX12_begin 37 = .ok (.getfield 179, 3) := by decide +kernel
theorem dX12_begin_40 : decode cX12_begin 40 = .ok (.iconst 0, 1) := by decide +kernel
theorem dX12_begin_41 : decode cX12_begin 41 = .ok (.aload_n 0, 1) := by decide +kernel
theorem dX12_begin_42 : decode cX12_begin 42 = .ok (.getfield 146, 3) := by decide +kernel
theorem dX12_begin_45 : decode cX12_begin 45 = .ok (.ifCond .eq 9, 3) := by decide +kernel
theorem dX12_begin_54 : decode cX12_begin 54 = .ok (.iconst 0, 1) := by decide +kernel
theorem dX12_begin_55 : decode cX12_begin 55 = .ok (.iastore, 1) := by decide +kernel
theorem dX12_begin_56 : decode cX12_begin 56 = .ok (.aload_n 0, 1) := by decide +kernel
theorem dX12_begin_57 : decode cX12_begin 57 = .ok (.getfield 182, 3) := by decide +kernel
theorem dX12_begin_60 : decode cX12_begin 60 = .ok (.iconst 0, 1) := by decide +kernel
theorem dX12_begin_61 : decode cX12_begin 61 = .ok (.aload_n 0, 1) := by decide +kernel
theorem dX12_begin_62 : decode cX12_begin 62 = .ok (.getfield 93, 3) := by decide +kernel
theorem dX12_begin_65 : decode cX12_begin 65 = .ok (.aload_n 0, 1) := by decide +kernel
theorem dX12_begin_66 : decode cX12_begin 66 = .ok (.getfield 51, 3) := by decide +kernel
theorem dX12_begin_69 : decode cX12_begin 69 = .ok (.iaload, 1) := by decide +kernel
theorem dX12_begin_70 : decode cX12_begin 70 = .ok (.iastore, 1) := by decide +kernel
theorem dX12_begin_71 : decode cX12_begin 71 = .ok (.aload_n 0, 1) := by decide +kernel
theorem dX12_begin_72 : decode cX12_begin 72 = .ok (.getfield 185, 3) := by decide +kernel
theorem dX12_begin_75 : decode cX12_begin 75 = .ok (.iconst 0, 1) := by decide +kernel
theorem dX12_begin_76 : decode cX12_begin 76 = .ok (.iconst 0, 1) := by decide +kernel
theorem dX12_begin_77 : decode cX12_begin 77 = .ok (.iastore, 1) := by decide +kernel
theorem dX12_begin_78 : decode cX12_begin 78 = .ok (.aload_n 0, 1) := by decide +kernel
theorem dX12_begin_79 : decode cX12_begin 79 = .ok (.iconst 0, 1) := by decide +kernel
theorem dX12_begin_80 : decode cX12_begin 80 = .ok (.putfield 194, 3) := by decide +kernel
theorem dX12_begin_83 : decode cX12_begin 83 = .ok (.aload_n 0, 1) := by decide +kernel
theorem dX12_begin_84 : decode cX12_begin 84 = .ok (.iconst 0, 1) := by decide +kernel
theorem dX12_begin_85 : decode cX12_begin 85 = .ok (.putfield 291, 3) := by decide +kernel
theorem dX12_begin_88 : decode cX12_begin 88 = .ok (.return_, 1) := by decide +kernel
theorem dX12_undo_0 : decode cX12_undo 0 = .ok (.aload_n 0, 1) := by decide +kernel
theorem dX12_undo_1 : decode cX12_undo 1 = .ok (.getfield 194, 3) := by decide +kernel
theorem dX12_undo_4 : decode cX12_undo 4 = .ok (.ifCond .ne 17, 3) := by decide +kernel
theorem dX12_undo_7 : decode cX12_undo 7 = .ok (.aload_n 0, 1) := by decide +kernel
theorem dX12_undo_8 : decode cX12_undo 8 = .ok (.iconst 4, 1) := by decide +kernel
theorem dX12_undo_9 : decode cX12_undo 9 = .ok (.invokevirtual 312, 3) := by decide +kernel
theorem dX12_undo_12 : decode cX12_undo 12 = .ok (.ifCond .lt 7, 3) := by decide +kernel
theorem dX12_undo_19 : decode cX12_undo 19 = .ok (.iconst 0, 1) := by decide +kernel
theorem dX12_undo_20 : decode cX12_undo 20 = .ok (.ireturn, 1) := by decide +kernel
theorem dX12_has_0 : decode cX12_has 0 = .ok (.iload_n 1, 1) := by decide +kernel
theorem dX12_has_1 : decode cX12_has 1 = .ok (.tableswitch 144 0 10 #[59, 69, 79, 84, 100, 107, 114, 121, 128, 133, 138], 59) := by decide +kernel
theorem dX12_has_60 : decode cX12_has 60 = .ok (.aload_n 0, 1) := by decide +kernel
theorem dX12_has_61 : decode cX12_has 61 = .ok (.getfield 54, 3) := by decide +kernel
theorem dX12_has_64 : decode cX12_has 64 = .ok (.aload_n 0, 1) := by decide +kernel
theorem dX12_has_65 : decode cX12_has 65 = .ok (.getfield 51, 3) := by decide +kernel
theorem dX12_has_68 : decode cX12_has 68 = .ok (.iaload, 1) := by decide +kernel
theorem dX12_has_69 : decode cX12_has 69 = .ok (.ireturn, 1) := by decide +kernel
theorem dX12_has_70 : decode cX12_has 70 = .ok (.aload_n 0, 1) := by decide +kernel
theorem dX12_has_71 : decode cX12_has 71 = .ok (.getfield 63, 3) := by decide +kernel
theorem dX12_has_74 : decode cX12_has 74 = .ok (.aload_n 0, 1) := by decide +kernel
theorem dX12_has_75 : decode cX12_has 75 = .ok (.getfield 51, 3) := by decide +kernel
theorem dX12_has_78 : decode cX12_has 78 = .ok (.iaload, 1) := by decide +kernel
theorem dX12_has_79 : decode cX12_has 79 = .ok (.ireturn, 1) := by decide +kernel
theorem dX12_has_80 : decode cX12_has 80 = .ok (.aload_n 0, 1) := by decide +kernel
theorem dX12_has_81 : decode cX12_has 81 = .ok (.invokevirtual 459, 3) := by decide +kernel
theorem dX12_has_84 : decode cX12_has 84 = .ok (.ireturn, 1) := by decide +kernel
theorem dX12_has_85 : decode cX12_has 85 = .ok (.aload_n 0, 1) := by decide +kernel
theorem dX12_has_86 : decode cX12_has 86 = .ok (.getfield 146, 3) := by decide +kernel
theorem dX12_has_89 : decode cX12_has 89 = .ok (.ifCond .eq 10, 3) := by decide +kernel
theorem dX12_has_99 : decode cX12_has 99 = .ok (.iconst 0, 1) := by decide +kernel
theorem dX12_has_100 : decode cX12_has 100 = .ok (.ireturn, 1) := by decide +kernel
theorem dX12_has_101 : decode cX12_has 101 = .ok (.aload_n 0, 1) := by decide +kernel
theorem dX12_has_102 : decode cX12_has 102 = .ok (.getfield 173, 3) := by decide +kernel
theorem dX12_has_105 : decode cX12_has 105 = .ok (.iconst 0, 1) := by decide +kernel
theorem dX12_has_106 : decode cX12_has 106 = .ok (.iaload, 1) := by decide +kernel
theorem dX12_has_107 : decode cX12_has 107 = .ok (.ireturn, 1) := by decide +kernel
theorem dX12_has_108 : decode cX12_has 108 = .ok (.aload_n 0, 1) := by decide +kernel
theorem dX12_has_109 : decode cX12_has 109 = .ok (.getfield 179, 3) := by decide +kernel
theorem dX12_has_112 : decode cX12_has 112 = .ok (.iconst 0, 1) := by decide +kernel
theorem dX12_has_113 : decode cX12_has 113 = .ok (.iaload, 1) := by decide +kernel
theorem dX12_has_114 : decode cX12_has 114 = .ok (.ireturn, 1) := by decide +kernel
theorem dX12_has_115 : decode cX12_has 115 = .ok (.aload_n 0, 1) := by decide +kernel
theorem dX12_has_116 : decode cX12_has 116 = .ok (.getfield 182, 3) := by decide +kernel
theorem dX12_has_119 : decode cX12_has 119 = .ok (.iconst 0, 1) := by decide +kernel
theorem dX12_has_120 : decode cX12_has 120 = .ok (.iaload, 1) := by decide +kernel
theorem dX12_has_121 : decode cX12_has 121 = .ok (.ireturn, 1) := by decide +kernel
theorem dX12_has_122 : decode cX12_has 122 = .ok (.aload_n 0, 1) := by decide +kernel
theorem dX12_has_123 : decode cX12_has 123 = .ok (.getfield 185, 3) := by decide +kernel
theorem dX12_has_126 : decode cX12_has 126 = .ok (.iconst 0, 1) := by decide +kernel
theorem dX12_has_127 : decode cX12_has 127 = .ok (.iaload, 1) := by decide +kernel
theorem dX12_has_128 : decode cX12_has 128 = .ok (.ireturn, 1) := by decide +kernel
theorem dX12_has_129 : decode cX12_has 129 = .ok (.aload_n 0, 1) := by decide +kernel
theorem dX12_has_130 : decode cX12_has 130 = .ok (.getfield 291, 3) := by decide +kernel
theorem dX12_has_133 : decode cX12_has 133 = .ok (.ireturn, 1) := by decide +kernel
theorem dX12_has_134 : decode cX12_has 134 = .ok (.aload_n 0, 1) := by decide +kernel
theorem dX12_has_135 : decode cX12_has 135 = .ok (.getfield 194, 3) := by decide +kernel
theorem dX12_has_138 : decode cX12_has 138 = .ok (.ireturn, 1) := by decide +kernel
theorem dX12_has_139 : decode cX12_has 139 = .ok (.aload_n 0, 1) := by decide +kernel
theorem dX12_has_140 : decode cX12_has 140 = .ok (.getfield 197, 3) := by decide +kernel
theorem dX12_has_143 : decode cX12_has 143 = .ok (.l2i, 1) := by decide +kernel
theorem dX12_has_144 : decode cX12_has 144 = .ok (.ireturn, 1) := by decide +kernel
theorem dX12_has_145 : decode cX12_has 145 = .ok (.iconst (-1), 1) := by decide +kernel
theorem dX12_has_146 : decode cX12_has 146 = .ok (.ireturn, 1) := by decide +kernel
theorem dX12_letter_0 : decode cX12_letter 0 = .ok (.iload_n 3, 1) := by decide +kernel
theorem dX12_letter_1 : decode cX12_letter 1 = .ok (.iconst 0, 1) := by decide +kernel
theorem dX12_letter_2 : decode cX12_letter 2 = .ok (.iconst 5, 1) := by decide +kernel
theorem dX12_letter_3 : decode cX12_letter 3 = .ok (.invokestatic 362, 3) := by decide +kernel
theorem dX12_letter_6 : decode cX12_letter 6 = .ok (.ifCond .eq 47, 3) := by decide +kernel
theorem dX12_letter_9 : decode cX12_letter 9 = .ok (.iload_n 1, 1) := by decide +kernel
theorem dX12_letter_10 : decode cX12_letter 10 = .ok (.iconst 0, 1) := by decide +kernel
theorem dX12_letter_11 : decode cX12_letter 11 = .ok (.iconst 1, 1) := by decide +kernel
theorem dX12_letter_12 : decode cX12_letter 12 = .ok (.invokestatic 362, 3) := by decide +kernel
theorem dX12_letter_15 : decode cX12_letter 15 = .ok (.ifCond .eq 38, 3) := by decide +kernel
theorem dX12_letter_18 : decode cX12_letter 18 = .ok (.iload_n 2, 1) := by decide +kernel
theorem dX12_letter_19 : decode cX12_letter 19 = .ok (.iconst 0, 1) := by decide +kernel
theorem dX12_letter_20 : decode cX12_letter 20 = .ok (.iload_n 1, 1) := by decide +kernel
theorem dX12_letter_21 : decode cX12_letter 21 = .ok (.ifCond .ne 15, 3) := by decide +kernel
theorem dX12_letter_24 : decode cX12_letter 24 = .ok (.aload_n 0, 1) := by decide +kernel
theorem dX12_letter_25 : decode cX12_letter 25 = .ok (.getfield 54, 3) := by decide +kernel
theorem dX12_letter_28 : decode cX12_letter 28 = .ok (.aload_n 0, 1) := by decide +kernel
theorem dX12_letter_29 : decode cX12_letter 29 = .ok (.getfield 51, 3) := by decide +kernel
theorem dX12_letter_32 : decode cX12_letter 32 = .ok (.iaload, 1) := by decide +kernel
theorem dX12_letter_33 : decode cX12_letter 33 = .ok (.goto 12, 3) := by decide +kernel
theorem dX12_letter_36 : decode cX12_letter 36 = .ok (.aload_n 0, 1) := by decide +kernel
theorem dX12_letter_37 : decode cX12_letter 37 = .ok (.getfield 63, 3) := by decide +kernel
theorem dX12_letter_40 : decode cX12_letter 40 = .ok (.aload_n 0, 1) := by decide +kernel
theorem dX12_letter_41 : decode cX12_letter 41 = .ok (.getfield 51, 3) := by decide +kernel
theorem dX12_letter_44 : decode cX12_letter 44 = .ok (.iaload, 1) := by decide +kernel
theorem dX12_letter_45 : decode cX12_letter 45 = .ok (.iconst 1, 1) := by decide +kernel
theorem dX12_letter_46 : decode cX12_letter 46 = .ok (.isub, 1) := by decide +kernel
theorem dX12_letter_47 : decode cX12_letter 47 = .ok (.invokestatic 362, 3) := by decide +kernel
theorem dX12_letter_50 : decode cX12_letter 50 = .ok (.ifCond .ne 5, 3) := by decide +kernel
theorem dX12_letter_53 : decode cX12_letter 53 = .ok (.iconst (-1), 1) := by decide +kernel
theorem dX12_letter_54 : decode cX12_letter 54 = .ok (.ireturn, 1) := by decide +kernel
theorem dX12_values_0 : decode cX12_values 0 = .ok (.aload_n 0, 1) := by decide +kernel
theorem dX12_values_1 : decode cX12_values 1 = .ok (.getfield 146, 3) := by decide +kernel
theorem dX12_values_4 : decode cX12_values 4 = .ok (.ifCond .eq 22, 3) := by decide +kernel
theorem dX12_values_26 : decode cX12_values 26 = .ok (.iconst (-1), 1) := by decide +kernel
theorem dX12_values_27 : decode cX12_values 27 = .ok (.ireturn, 1) := by decide +kernel
theorem dX12_isPlace_0 : decode cX12_isPlace 0 = .ok (.aload_n 0, 1) := by decide +kernel
theorem dX12_isPlace_1 : decode cX12_isPlace 1 = .ok (.getfield 146, 3) := by decide +kernel
theorem dX12_isPlace_4 : decode cX12_isPlace 4 = .ok (.ifCond .eq 23, 3) := by decide +kernel
theorem dX12_isPlace_27 : decode cX12_isPlace 27 = .ok (.iconst 0, 1) := by decide +kernel
theorem dX12_isPlace_28 : decode cX12_isPlace 28 = .ok (.ireturn, 1) := by decide +kernel
theorem dX12_arm_0 : decode cX12_arm 0 = .ok (.aload_n 0, 1) := by decide +kernel
theorem dX12_arm_1 : decode cX12_arm 1 = .ok (.iload_n 1, 1) := by decide +kernel
theorem dX12_arm_2 : decode cX12_arm 2 = .ok (.invokevirtual 498, 3) := by decide +kernel
theorem dX12_arm_5 : decode cX12_arm 5 = .ok (.ifCond .ne 5, 3) := by decide +kernel
theorem dX12_arm_8 : decode cX12_arm 8 = .ok (.iconst (-1), 1) := by decide +kernel
theorem dX12_arm_9 : decode cX12_arm 9 = .ok (.ireturn, 1) := by decide +kernel
theorem dX12_fits_0 : decode cX12_fits 0 = .ok (.aload_n 0, 1) := by decide +kernel
theorem dX12_fits_1 : decode cX12_fits 1 = .ok (.iload_n 1, 1) := by decide +kernel
theorem dX12_fits_2 : decode cX12_fits 2 = .ok (.invokevirtual 498, 3) := by decide +kernel
theorem dX12_fits_5 : decode cX12_fits 5 = .ok (.ifCond .eq 32, 3) := by decide +kernel
theorem dX12_fits_37 : decode cX12_fits 37 = .ok (.iconst (-1), 1) := by decide +kernel
theorem dX12_fits_38 : decode cX12_fits 38 = .ok (.ireturn, 1) := by decide +kernel
theorem dX12_holds_0 : decode cX12_holds 0 = .ok (.aload_n 0, 1) := by decide +kernel
theorem dX12_holds_1 : decode cX12_holds 1 = .ok (.iload_n 1, 1) := by decide +kernel
theorem dX12_holds_2 : decode cX12_holds 2 = .ok (.invokevirtual 498, 3) := by decide +kernel
theorem dX12_holds_5 : decode cX12_holds 5 = .ok (.ifCond .eq 11, 3) := by decide +kernel
theorem dX12_holds_16 : decode cX12_holds 16 = .ok (.iconst (-1), 1) := by decide +kernel
theorem dX12_holds_17 : decode cX12_holds 17 = .ok (.ireturn, 1) := by decide +kernel
theorem dX12_missing_0 : decode cX12_missing 0 = .ok (.aload_n 0, 1) := by decide +kernel
theorem dX12_missing_1 : decode cX12_missing 1 = .ok (.getfield 146, 3) := by decide +kernel
theorem dX12_missing_4 : decode cX12_missing 4 = .ok (.ifCond .eq 8, 3) := by decide +kernel
theorem dX12_missing_12 : decode cX12_missing 12 = .ok (.iconst (-1), 1) := by decide +kernel
theorem dX12_missing_13 : decode cX12_missing 13 = .ok (.ireturn, 1) := by decide +kernel
theorem dX12_isRow_0 : decode cX12_isRow 0 = .ok (.aload_n 0, 1) := by decide +kernel
theorem dX12_isRow_1 : decode cX12_isRow 1 = .ok (.getfield 146, 3) := by decide +kernel
theorem dX12_isRow_4 : decode cX12_isRow 4 = .ok (.ifCond .eq 21, 3) := by decide +kernel
theorem dX12_isRow_25 : decode cX12_isRow 25 = .ok (.iconst 0, 1) := by decide +kernel
theorem dX12_isRow_26 : decode cX12_isRow 26 = .ok (.ireturn, 1) := by decide +kernel
theorem dX12_taken_0 : decode cX12_taken 0 = .ok (.aload_n 0, 1) := by decide +kernel
theorem dX12_taken_1 : decode cX12_taken 1 = .ok (.iload_n 1, 1) := by decide +kernel
theorem dX12_taken_2 : decode cX12_taken 2 = .ok (.invokevirtual 516, 3) := by decide +kernel
theorem dX12_taken_5 : decode cX12_taken 5 = .ok (.ifCond .ne 5, 3) := by decide +kernel
theorem dX12_taken_8 : decode cX12_taken 8 = .ok (.iconst (-1), 1) := by decide +kernel
theorem dX12_taken_9 : decode cX12_taken 9 = .ok (.ireturn, 1) := by decide +kernel
theorem dX12_row_0 : decode cX12_row 0 = .ok (.aload_n 0, 1) := by decide +kernel
theorem dX12_row_1 : decode cX12_row 1 = .ok (.aload_n 0, 1) := by decide +kernel
theorem dX12_row_2 : decode cX12_row 2 = .ok (.getfield 13, 3) := by decide +kernel
theorem dX12_row_5 : decode cX12_row 5 = .ok (.putfield 17, 3) := by decide +kernel
theorem dX12_row_8 : decode cX12_row 8 = .ok (.aload_n 0, 1) := by decide +kernel
theorem dX12_row_9 : decode cX12_row 9 = .ok (.iconst 0, 1) := by decide +kernel
theorem dX12_row_10 : decode cX12_row 10 = .ok (.putfield 13, 3) := by decide +kernel
theorem dX12_row_13 : decode cX12_row 13 = .ok (.aload_n 0, 1) := by decide +kernel
theorem dX12_row_14 : decode cX12_row 14 = .ok (.iconst 0, 1) := by decide +kernel
theorem dX12_row_15 : decode cX12_row 15 = .ok (.putfield 26, 3) := by decide +kernel
theorem dX12_row_18 : decode cX12_row 18 = .ok (.aload_n 0, 1) := by decide +kernel
theorem dX12_row_19 : decode cX12_row 19 = .ok (.iconst 0, 1) := by decide +kernel
theorem dX12_row_20 : decode cX12_row 20 = .ok (.putfield 36, 3) := by decide +kernel
theorem dX12_row_23 : decode cX12_row 23 = .ok (.aload_n 0, 1) := by decide +kernel
theorem dX12_row_24 : decode cX12_row 24 = .ok (.iconst (-1), 1) := by decide +kernel
theorem dX12_row_25 : decode cX12_row 25 = .ok (.putfield 39, 3) := by decide +kernel
theorem dX12_row_28 : decode cX12_row 28 = .ok (.iconst 0, 1) := by decide +kernel
theorem dX12_row_29 : decode cX12_row 29 = .ok (.istore_n 1, 1) := by decide +kernel
theorem dX12_row_30 : decode cX12_row 30 = .ok (.aload_n 0, 1) := by decide +kernel
theorem dX12_row_31 : decode cX12_row 31 = .ok (.getfield 146, 3) := by decide +kernel
theorem dX12_row_34 : decode cX12_row 34 = .ok (.ifCond .ne 9, 3) := by decide +kernel
theorem dX12_row_37 : decode cX12_row 37 = .ok (.aload_n 0, 1) := by decide +kernel
theorem dX12_row_38 : decode cX12_row 38 = .ok (.iconst 1, 1) := by decide +kernel
theorem dX12_row_39 : decode cX12_row 39 = .ok (.iconst 0, 1) := by decide +kernel
theorem dX12_row_40 : decode cX12_row 40 = .ok (.invokevirtual 320, 3) := by decide +kernel
theorem dX12_row_43 : decode cX12_row 43 = .ok (.aload_n 0, 1) := by decide +kernel
theorem dX12_row_44 : decode cX12_row 44 = .ok (.getfield 36, 3) := by decide +kernel
theorem dX12_row_47 : decode cX12_row 47 = .ok (.ifCond .ne 7, 3) := by decide +kernel
theorem dX12_row_54 : decode cX12_row 54 = .ok (.iconst 0, 1) := by decide +kernel
theorem dX12_row_55 : decode cX12_row 55 = .ok (.istore_n 2, 1) := by decide +kernel
theorem dX12_row_56 : decode cX12_row 56 = .ok (.iload_n 2, 1) := by decide +kernel
theorem dX12_row_57 : decode cX12_row 57 = .ok (.aload_n 0, 1) := by decide +kernel
theorem dX12_row_58 : decode cX12_row 58 = .ok (.invokevirtual 459, 3) := by decide +kernel
theorem dX12_row_61 : decode cX12_row 61 = .ok (.if_icmp .ge 67, 3) := by decide +kernel
theorem dX12_row_128 : decode cX12_row 128 = .ok (.aload_n 0, 1) := by decide +kernel
theorem dX12_row_129 : decode cX12_row 129 = .ok (.getfield 36, 3) := by decide +kernel
theorem dX12_row_132 : decode cX12_row 132 = .ok (.ifCond .ne 7, 3) := by decide +kernel
theorem dX12_row_139 : decode cX12_row 139 = .ok (.aload_n 0, 1) := by decide +kernel
theorem dX12_row_140 : decode cX12_row 140 = .ok (.getfield 36, 3) := by decide +kernel
theorem dX12_row_143 : decode cX12_row 143 = .ok (.ifCond .ne 19, 3) := by decide +kernel
theorem dX12_row_162 : decode cX12_row 162 = .ok (.aload_n 0, 1) := by decide +kernel
theorem dX12_row_163 : decode cX12_row 163 = .ok (.aload_n 0, 1) := by decide +kernel
theorem dX12_row_164 : decode cX12_row 164 = .ok (.getfield 36, 3) := by decide +kernel
theorem dX12_row_167 : decode cX12_row 167 = .ok (.putfield 42, 3) := by decide +kernel
theorem dX12_row_170 : decode cX12_row 170 = .ok (.aload_n 0, 1) := by decide +kernel
theorem dX12_row_171 : decode cX12_row 171 = .ok (.aload_n 0, 1) := by decide +kernel
theorem dX12_row_172 : decode cX12_row 172 = .ok (.getfield 39, 3) := by decide +kernel
theorem dX12_row_175 : decode cX12_row 175 = .ok (.putfield 45, 3) := by decide +kernel
theorem dX12_row_178 : decode cX12_row 178 = .ok (.aload_n 0, 1) := by decide +kernel
theorem dX12_row_179 : decode cX12_row 179 = .ok (.getfield 36, 3) := by decide +kernel
theorem dX12_row_182 : decode cX12_row 182 = .ok (.ifCond .le 11, 3) := by decide +kernel
theorem dX12_row_185 : decode cX12_row 185 = .ok (.aload_n 0, 1) := by decide +kernel
theorem dX12_row_186 : decode cX12_row 186 = .ok (.iconst 1, 1) := by decide +kernel
theorem dX12_row_187 : decode cX12_row 187 = .ok (.invokevirtual 312, 3) := by decide +kernel
theorem dX12_row_190 : decode cX12_row 190 = .ok (.goto 4, 3) := by decide +kernel
theorem dX12_row_194 : decode cX12_row 194 = .ok (.ireturn, 1) := by decide +kernel
theorem dX12_writes_0 : decode cX12_writes 0 = .ok (.aload_n 0, 1) := by decide +kernel
theorem dX12_writes_1 : decode cX12_writes 1 = .ok (.getfield 221, 3) := by decide +kernel
theorem dX12_writes_4 : decode cX12_writes 4 = .ok (.aload_n 0, 1) := by decide +kernel
theorem dX12_writes_5 : decode cX12_writes 5 = .ok (.getfield 224, 3) := by decide +kernel
theorem dX12_writes_8 : decode cX12_writes 8 = .ok (.iload_n 1, 1) := by decide +kernel
theorem dX12_writes_9 : decode cX12_writes 9 = .ok (.sipush 255, 3) := by decide +kernel
theorem dX12_writes_12 : decode cX12_writes 12 = .ok (.iand, 1) := by decide +kernel
theorem dX12_writes_13 : decode cX12_writes 13 = .ok (.iastore, 1) := by decide +kernel
theorem dX12_writes_14 : decode cX12_writes 14 = .ok (.aload_n 0, 1) := by decide +kernel
theorem dX12_writes_15 : decode cX12_writes 15 = .ok (.dup, 1) := by decide +kernel
theorem dX12_writes_16 : decode cX12_writes 16 = .ok (.getfield 224, 3) := by decide +kernel
theorem dX12_writes_19 : decode cX12_writes 19 = .ok (.iconst 1, 1) := by decide +kernel
theorem dX12_writes_20 : decode cX12_writes 20 = .ok (.iadd, 1) := by decide +kernel
theorem dX12_writes_21 : decode cX12_writes 21 = .ok (.putfield 224, 3) := by decide +kernel
theorem dX12_writes_24 : decode cX12_writes 24 = .ok (.return_, 1) := by decide +kernel
theorem dX12_text_0 : decode cX12_text 0 = .ok (.aload_n 0, 1) := by decide +kernel
theorem dX12_text_1 : decode cX12_text 1 = .ok (.iload_n 1, 1) := by decide +kernel
theorem dX12_text_2 : decode cX12_text 2 = .ok (.invokevirtual 516, 3) := by decide +kernel
theorem dX12_text_5 : decode cX12_text 5 = .ok (.ifCond .ne 5, 3) := by decide +kernel
theorem dX12_text_8 : decode cX12_text 8 = .ok (.iconst (-1), 1) := by decide +kernel
theorem dX12_text_9 : decode cX12_text 9 = .ok (.ireturn, 1) := by decide +kernel
theorem dX12_octet_0 : decode cX12_octet 0 = .ok (.iload_n 1, 1) := by decide +kernel
theorem dX12_octet_1 : decode cX12_octet 1 = .ok (.iconst 0, 1) := by decide +kernel
theorem dX12_octet_2 : decode cX12_octet 2 = .ok (.aload_n 0, 1) := by decide +kernel
theorem dX12_octet_3 : decode cX12_octet 3 = .ok (.getfield 224, 3) := by decide +kernel
theorem dX12_octet_6 : decode cX12_octet 6 = .ok (.iconst 1, 1) := by decide +kernel
theorem dX12_octet_7 : decode cX12_octet 7 = .ok (.isub, 1) := by decide +kernel
theorem dX12_octet_8 : decode cX12_octet 8 = .ok (.invokestatic 362, 3) := by decide +kernel
theorem dX12_octet_11 : decode cX12_octet 11 = .ok (.ifCond .eq 12, 3) := by decide +kernel
theorem dX12_octet_23 : decode cX12_octet 23 = .ok (.iconst (-1), 1) := by decide +kernel
theorem dX12_octet_24 : decode cX12_octet 24 = .ok (.ireturn, 1) := by decide +kernel
theorem dX12_tree_0 : decode cX12_tree 0 = .ok (.aload_n 0, 1) := by decide +kernel
theorem dX12_tree_1 : decode cX12_tree 1 = .ok (.getfield 146, 3) := by decide +kernel
theorem dX12_tree_4 : decode cX12_tree 4 = .ok (.ifCond .eq 21, 3) := by decide +kernel
theorem dX12_tree_25 : decode cX12_tree 25 = .ok (.iconst (-1), 1) := by decide +kernel
theorem dX12_tree_26 : decode cX12_tree 26 = .ok (.ireturn, 1) := by decide +kernel
theorem dX12_first_0 : decode cX12_first 0 = .ok (.aload_n 0, 1) := by decide +kernel
theorem dX12_first_1 : decode cX12_first 1 = .ok (.getfield 146, 3) := by decide +kernel
