theorem dX11_init_146 : decode cX11_init 146 = .ok (.dup, 1) := by decide +kernel
theorem dX11_init_147 : decode cX11_init 147 = .ok (.invokespecial 70, 3) := by decide +kernel
theorem dX11_init_150 : decode cX11_init 150 = .ok (.putfield 75, 3) := by decide +kernel
theorem dX11_init_153 : decode cX11_init 153 = .ok (.aload_n 0, 1) := by decide +kernel
theorem dX11_init_154 : decode cX11_init 154 = .ok (.new 78, 3) := by decide +kernel
theorem dX11_init_157 : decode cX11_init 157 = .ok (.dup, 1) := by decide +kernel
theorem dX11_init_158 : decode cX11_init 158 = .ok (.aload_n 0, 1) := by decide +kernel
theorem dX11_init_159 : decode cX11_init 159 = .ok (.getfield 71, 3) := by decide +kernel
theorem dX11_init_162 : decode cX11_init 162 = .ok (.invokespecial 80, 3) := by decide +kernel
theorem dX11_init_165 : decode cX11_init 165 = .ok (.putfield 83, 3) := by decide +kernel
theorem dX11_init_168 : decode cX11_init 168 = .ok (.aload_n 0, 1) := by decide +kernel
theorem dX11_init_169 : decode cX11_init 169 = .ok (.new 87, 3) := by decide +kernel
theorem dX11_init_172 : decode cX11_init 172 = .ok (.dup, 1) := by decide +kernel
theorem dX11_init_173 : decode cX11_init 173 = .ok (.aload_n 0, 1) := by decide +kernel
theorem dX11_init_174 : decode cX11_init 174 = .ok (.getfield 71, 3) := by decide +kernel
theorem dX11_init_177 : decode cX11_init 177 = .ok (.aload_n 0, 1) := by decide +kernel
theorem dX11_init_178 : decode cX11_init 178 = .ok (.getfield 43, 3) := by decide +kernel
theorem dX11_init_181 : decode cX11_init 181 = .ok (.aload_n 0, 1) := by decide +kernel
theorem dX11_init_182 : decode cX11_init 182 = .ok (.getfield 24, 3) := by decide +kernel
theorem dX11_init_185 : decode cX11_init 185 = .ok (.invokespecial 89, 3) := by decide +kernel
theorem dX11_init_188 : decode cX11_init 188 = .ok (.putfield 92, 3) := by decide +kernel
theorem dX11_init_191 : decode cX11_init 191 = .ok (.aload_n 0, 1) := by decide +kernel
theorem dX11_init_192 : decode cX11_init 192 = .ok (.iconst 1, 1) := by decide +kernel
theorem dX11_init_193 : decode cX11_init 193 = .ok (.putfield 96, 3) := by decide +kernel
theorem dX11_init_196 : decode cX11_init 196 = .ok (.return_, 1) := by decide +kernel
theorem dX11_feed_0 : decode cX11_feed 0 = .ok (.aload_n 0, 1) := by decide +kernel
theorem dX11_feed_1 : decode cX11_feed 1 = .ok (.getfield 14, 3) := by decide +kernel
theorem dX11_feed_4 : decode cX11_feed 4 = .ok (.getfield 100, 3) := by decide +kernel
theorem dX11_feed_7 : decode cX11_feed 7 = .ok (.bipush 20, 2) := by decide +kernel
theorem dX11_feed_9 : decode cX11_feed 9 = .ok (.iadd, 1) := by decide +kernel
theorem dX11_feed_10 : decode cX11_feed 10 = .ok (.sipush 1600, 3) := by decide +kernel
theorem dX11_feed_13 : decode cX11_feed 13 = .ok (.if_icmp .le 11, 3) := by decide +kernel
theorem dX11_feed_16 : decode cX11_feed 16 = .ok (.aload_n 0, 1) := by decide +kernel
theorem dX11_feed_17 : decode cX11_feed 17 = .ok (.iconst 0, 1) := by decide +kernel
theorem dX11_feed_18 : decode cX11_feed 18 = .ok (.invokevirtual 103, 3) := by decide +kernel
theorem dX11_feed_21 : decode cX11_feed 21 = .ok (.pop, 1) := by decide +kernel
theorem dX11_feed_22 : decode cX11_feed 22 = .ok (.iconst (-1), 1) := by decide +kernel
theorem dX11_feed_23 : decode cX11_feed 23 = .ok (.ireturn, 1) := by decide +kernel
theorem dX11_feed_24 : decode cX11_feed 24 = .ok (.aload_n 0, 1) := by decide +kernel
theorem dX11_feed_25 : decode cX11_feed 25 = .ok (.getfield 14, 3) := by decide +kernel
theorem dX11_feed_28 : decode cX11_feed 28 = .ok (.iload_n 1, 1) := by decide +kernel
theorem dX11_feed_29 : decode cX11_feed 29 = .ok (.invokevirtual 107, 3) := by decide +kernel
theorem dX11_feed_32 : decode cX11_feed 32 = .ok (.aload_n 0, 1) := by decide +kernel
theorem dX11_feed_33 : decode cX11_feed 33 = .ok (.getfield 14, 3) := by decide +kernel
theorem dX11_feed_36 : decode cX11_feed 36 = .ok (.iload_n 2, 1) := by decide +kernel
theorem dX11_feed_37 : decode cX11_feed 37 = .ok (.invokevirtual 107, 3) := by decide +kernel
theorem dX11_feed_40 : decode cX11_feed 40 = .ok (.aload_n 0, 1) := by decide +kernel
theorem dX11_feed_41 : decode cX11_feed 41 = .ok (.getfield 14, 3) := by decide +kernel
theorem dX11_feed_44 : decode cX11_feed 44 = .ok (.iload_n 3, 1) := by decide +kernel
theorem dX11_feed_45 : decode cX11_feed 45 = .ok (.invokevirtual 107, 3) := by decide +kernel
theorem dX11_feed_48 : decode cX11_feed 48 = .ok (.aload_n 0, 1) := by decide +kernel
theorem dX11_feed_49 : decode cX11_feed 49 = .ok (.getfield 14, 3) := by decide +kernel
theorem dX11_feed_52 : decode cX11_feed 52 = .ok (.iload 4, 2) := by decide +kernel
theorem dX11_feed_54 : decode cX11_feed 54 = .ok (.invokevirtual 107, 3) := by decide +kernel
theorem dX11_feed_57 : decode cX11_feed 57 = .ok (.aload_n 0, 1) := by decide +kernel
theorem dX11_feed_58 : decode cX11_feed 58 = .ok (.getfield 14, 3) := by decide +kernel
theorem dX11_feed_61 : decode cX11_feed 61 = .ok (.iload 5, 2) := by decide +kernel
theorem dX11_feed_63 : decode cX11_feed 63 = .ok (.invokevirtual 107, 3) := by decide +kernel
theorem dX11_feed_66 : decode cX11_feed 66 = .ok (.aload_n 0, 1) := by decide +kernel
theorem dX11_feed_67 : decode cX11_feed 67 = .ok (.getfield 14, 3) := by decide +kernel
theorem dX11_feed_70 : decode cX11_feed 70 = .ok (.getfield 100, 3) := by decide +kernel
theorem dX11_feed_73 : decode cX11_feed 73 = .ok (.ireturn, 1) := by decide +kernel
theorem dX11_end_0 : decode cX11_end 0 = .ok (.iload_n 1, 1) := by decide +kernel
theorem dX11_end_1 : decode cX11_end 1 = .ok (.ifCond .lt 14, 3) := by decide +kernel
theorem dX11_end_4 : decode cX11_end 4 = .ok (.iload_n 1, 1) := by decide +kernel
theorem dX11_end_5 : decode cX11_end 5 = .ok (.aload_n 0, 1) := by decide +kernel
theorem dX11_end_6 : decode cX11_end 6 = .ok (.getfield 14, 3) := by decide +kernel
theorem dX11_end_9 : decode cX11_end 9 = .ok (.getfield 100, 3) := by decide +kernel
theorem dX11_end_12 : decode cX11_end 12 = .ok (.if_icmp .le 9, 3) := by decide +kernel
theorem dX11_end_15 : decode cX11_end 15 = .ok (.aload_n 0, 1) := by decide +kernel
theorem dX11_end_16 : decode cX11_end 16 = .ok (.iconst 0, 1) := by decide +kernel
theorem dX11_end_17 : decode cX11_end 17 = .ok (.invokevirtual 103, 3) := by decide +kernel
theorem dX11_end_20 : decode cX11_end 20 = .ok (.ireturn, 1) := by decide +kernel
theorem dX11_end_21 : decode cX11_end 21 = .ok (.aload_n 0, 1) := by decide +kernel
theorem dX11_end_22 : decode cX11_end 22 = .ok (.getfield 14, 3) := by decide +kernel
theorem dX11_end_25 : decode cX11_end 25 = .ok (.iload_n 1, 1) := by decide +kernel
theorem dX11_end_26 : decode cX11_end 26 = .ok (.putfield 100, 3) := by decide +kernel
theorem dX11_end_29 : decode cX11_end 29 = .ok (.iconst 1, 1) := by decide +kernel
theorem dX11_end_30 : decode cX11_end 30 = .ok (.ireturn, 1) := by decide +kernel
theorem dX11_match_0 : decode cX11_match 0 = .ok (.aload_n 0, 1) := by decide +kernel
theorem dX11_match_1 : decode cX11_match 1 = .ok (.getfield 83, 3) := by decide +kernel
theorem dX11_match_4 : decode cX11_match 4 = .ok (.aload_n 0, 1) := by decide +kernel
theorem dX11_match_5 : decode cX11_match 5 = .ok (.getfield 14, 3) := by decide +kernel
theorem dX11_match_8 : decode cX11_match 8 = .ok (.aload_n 0, 1) := by decide +kernel
theorem dX11_match_9 : decode cX11_match 9 = .ok (.getfield 75, 3) := by decide +kernel
theorem dX11_match_12 : decode cX11_match 12 = .ok (.invokevirtual 110, 3) := by decide +kernel
theorem dX11_match_15 : decode cX11_match 15 = .ok (.istore_n 1, 1) := by decide +kernel
theorem dX11_match_16 : decode cX11_match 16 = .ok (.aload_n 0, 1) := by decide +kernel
theorem dX11_match_17 : decode cX11_match 17 = .ok (.getfield 14, 3) := by decide +kernel
theorem dX11_match_20 : decode cX11_match 20 = .ok (.iconst 0, 1) := by decide +kernel
theorem dX11_match_21 : decode cX11_match 21 = .ok (.putfield 100, 3) := by decide +kernel
theorem dX11_match_24 : decode cX11_match 24 = .ok (.iload_n 1, 1) := by decide +kernel
theorem dX11_match_25 : decode cX11_match 25 = .ok (.iconst (-1), 1) := by decide +kernel
theorem dX11_match_26 : decode cX11_match 26 = .ok (.if_icmp .ne 11, 3) := by decide +kernel
theorem dX11_match_29 : decode cX11_match 29 = .ok (.aload_n 0, 1) := by decide +kernel
theorem dX11_match_30 : decode cX11_match 30 = .ok (.iconst 1, 1) := by decide +kernel
theorem dX11_match_31 : decode cX11_match 31 = .ok (.invokevirtual 103, 3) := by decide +kernel
theorem dX11_match_34 : decode cX11_match 34 = .ok (.pop, 1) := by decide +kernel
theorem dX11_match_35 : decode cX11_match 35 = .ok (.iconst (-1), 1) := by decide +kernel
theorem dX11_match_36 : decode cX11_match 36 = .ok (.ireturn, 1) := by decide +kernel
theorem dX11_match_37 : decode cX11_match 37 = .ok (.aload_n 0, 1) := by decide +kernel
theorem dX11_match_38 : decode cX11_match 38 = .ok (.getfield 71, 3) := by decide +kernel
theorem dX11_match_41 : decode cX11_match 41 = .ok (.astore_n 2, 1) := by decide +kernel
theorem dX11_match_42 : decode cX11_match 42 = .ok (.aload_n 0, 1) := by decide +kernel
theorem dX11_match_43 : decode cX11_match 43 = .ok (.aload_n 0, 1) := by decide +kernel
theorem dX11_match_44 : decode cX11_match 44 = .ok (.getfield 75, 3) := by decide +kernel
theorem dX11_match_47 : decode cX11_match 47 = .ok (.putfield 71, 3) := by decide +kernel
theorem dX11_match_50 : decode cX11_match 50 = .ok (.aload_n 0, 1) := by decide +kernel
theorem dX11_match_51 : decode cX11_match 51 = .ok (.aload_n 2, 1) := by decide +kernel
theorem dX11_match_52 : decode cX11_match 52 = .ok (.putfield 75, 3) := by decide +kernel
theorem dX11_match_55 : decode cX11_match 55 = .ok (.aload_n 0, 1) := by decide +kernel
theorem dX11_match_56 : decode cX11_match 56 = .ok (.invokevirtual 114, 3) := by decide +kernel
theorem dX11_match_59 : decode cX11_match 59 = .ok (.iload_n 1, 1) := by decide +kernel
theorem dX11_match_60 : decode cX11_match 60 = .ok (.ireturn, 1) := by decide +kernel
theorem dX11_startMatch_0 : decode cX11_startMatch 0 = .ok (.aload_n 0, 1) := by decide +kernel
theorem dX11_startMatch_1 : decode cX11_startMatch 1 = .ok (.getfield 92, 3) := by decide +kernel
theorem dX11_startMatch_4 : decode cX11_startMatch 4 = .ok (.aload_n 0, 1) := by decide +kernel
theorem dX11_startMatch_5 : decode cX11_startMatch 5 = .ok (.getfield 71, 3) := by decide +kernel
theorem dX11_startMatch_8 : decode cX11_startMatch 8 = .ok (.invokevirtual 117, 3) := by decide +kernel
theorem dX11_startMatch_11 : decode cX11_startMatch 11 = .ok (.aload_n 0, 1) := by decide +kernel
theorem dX11_startMatch_12 : decode cX11_startMatch 12 = .ok (.getfield 33, 3) := by decide +kernel
theorem dX11_startMatch_15 : decode cX11_startMatch 15 = .ok (.invokevirtual 120, 3) := by decide +kernel
theorem dX11_startMatch_18 : decode cX11_startMatch 18 = .ok (.aload_n 0, 1) := by decide +kernel
theorem dX11_startMatch_19 : decode cX11_startMatch 19 = .ok (.getfield 33, 3) := by decide +kernel
theorem dX11_startMatch_22 : decode cX11_startMatch 22 = .ok (.iconst 1, 1) := by decide +kernel
theorem dX11_startMatch_23 : decode cX11_startMatch 23 = .ok (.aload_n 0, 1) := by decide +kernel
theorem dX11_startMatch_24 : decode cX11_startMatch 24 = .ok (.getfield 71, 3) := by decide +kernel
theorem dX11_startMatch_27 : decode cX11_startMatch 27 = .ok (.getfield 123, 3) := by decide +kernel
theorem dX11_startMatch_30 : decode cX11_startMatch 30 = .ok (.ishl, 1) := by decide +kernel
theorem dX11_startMatch_31 : decode cX11_startMatch 31 = .ok (.iconst 1, 1) := by decide +kernel
theorem dX11_startMatch_32 : decode cX11_startMatch 32 = .ok (.isub, 1) := by decide +kernel
theorem dX11_startMatch_33 : decode cX11_startMatch 33 = .ok (.iconst 1, 1) := by decide +kernel
theorem dX11_startMatch_34 : decode cX11_startMatch 34 = .ok (.invokevirtual 126, 3) := by decide +kernel
theorem dX11_startMatch_37 : decode cX11_startMatch 37 = .ok (.iconst 0, 1) := by decide +kernel
theorem dX11_startMatch_38 : decode cX11_startMatch 38 = .ok (.istore_n 1, 1) := by decide +kernel
theorem dX11_startMatch_39 : decode cX11_startMatch 39 = .ok (.iload_n 1, 1) := by decide +kernel
theorem dX11_startMatch_40 : decode cX11_startMatch 40 = .ok (.aload_n 0, 1) := by decide +kernel
theorem dX11_startMatch_41 : decode cX11_startMatch 41 = .ok (.getfield 71, 3) := by decide +kernel
theorem dX11_startMatch_44 : decode cX11_startMatch 44 = .ok (.getfield 130, 3) := by decide +kernel
theorem dX11_startMatch_47 : decode cX11_startMatch 47 = .ok (.if_icmp .ge 47, 3) := by decide +kernel
theorem dX11_startMatch_50 : decode cX11_startMatch 50 = .ok (.aload_n 0, 1) := by decide +kernel
theorem dX11_startMatch_51 : decode cX11_startMatch 51 = .ok (.getfield 37, 3) := by decide +kernel
theorem dX11_startMatch_54 : decode cX11_startMatch 54 = .ok (.aload_n 0, 1) := by decide +kernel
theorem dX11_startMatch_55 : decode cX11_startMatch 55 = .ok (.getfield 33, 3) := by decide +kernel
theorem dX11_startMatch_58 : decode cX11_startMatch 58 = .ok (.invokevirtual 133, 3) := by decide +kernel
theorem dX11_startMatch_61 : decode cX11_startMatch 61 = .ok (.aload_n 0, 1) := by decide +kernel
theorem dX11_startMatch_62 : decode cX11_startMatch 62 = .ok (.getfield 33, 3) := by decide +kernel
theorem dX11_startMatch_65 : decode cX11_startMatch 65 = .ok (.invokevirtual 120, 3) := by decide +kernel
theorem dX11_startMatch_68 : decode cX11_startMatch 68 = .ok (.aload_n 0, 1) := by decide +kernel
theorem dX11_startMatch_69 : decode cX11_startMatch 69 = .ok (.getfield 33, 3) := by decide +kernel
theorem dX11_startMatch_72 : decode cX11_startMatch 72 = .ok (.aload_n 0, 1) := by decide +kernel
theorem dX11_startMatch_73 : decode cX11_startMatch 73 = .ok (.getfield 37, 3) := by decide +kernel
theorem dX11_startMatch_76 : decode cX11_startMatch 76 = .ok (.aload_n 0, 1) := by decide +kernel
theorem dX11_startMatch_77 : decode cX11_startMatch 77 = .ok (.getfield 92, 3) := by decide +kernel
theorem dX11_startMatch_80 : decode cX11_startMatch 80 = .ok (.getfield 137, 3) := by decide +kernel
theorem dX11_startMatch_83 : decode cX11_startMatch 83 = .ok (.iload_n 1, 1) := by decide +kernel
theorem dX11_startMatch_84 : decode cX11_startMatch 84 = .ok (.aaload, 1) := by decide +kernel
theorem dX11_startMatch_85 : decode cX11_startMatch 85 = .ok (.invokevirtual 141, 3) := by decide +kernel
theorem dX11_startMatch_88 : decode cX11_startMatch 88 = .ok (.iinc 1 1, 3) := by decide +kernel
theorem dX11_startMatch_91 : decode cX11_startMatch 91 = .ok (.goto (-52), 3) := by decide +kernel
theorem dX11_startMatch_94 : decode cX11_startMatch 94 = .ok (.aload_n 0, 1) := by decide +kernel
theorem dX11_startMatch_95 : decode cX11_startMatch 95 = .ok (.getfield 43, 3) := by decide +kernel
theorem dX11_startMatch_98 : decode cX11_startMatch 98 = .ok (.aload_n 0, 1) := by decide +kernel
theorem dX11_startMatch_99 : decode cX11_startMatch 99 = .ok (.getfield 71, 3) := by decide +kernel
theorem dX11_startMatch_102 : decode cX11_startMatch 102 = .ok (.getfield 123, 3) := by decide +kernel
theorem dX11_startMatch_105 : decode cX11_startMatch 105 = .ok (.aload_n 0, 1) := by decide +kernel
theorem dX11_startMatch_106 : decode cX11_startMatch 106 = .ok (.getfield 71, 3) := by decide +kernel
theorem dX11_startMatch_109 : decode cX11_startMatch 109 = .ok (.getfield 145, 3) := by decide +kernel
theorem dX11_startMatch_112 : decode cX11_startMatch 112 = .ok (.invokevirtual 148, 3) := by decide +kernel
theorem dX11_startMatch_115 : decode cX11_startMatch 115 = .ok (.aload_n 0, 1) := by decide +kernel
theorem dX11_startMatch_116 : decode cX11_startMatch 116 = .ok (.getfield 53, 3) := by decide +kernel
theorem dX11_startMatch_119 : decode cX11_startMatch 119 = .ok (.invokevirtual 150, 3) := by decide +kernel
theorem dX11_startMatch_122 : decode cX11_startMatch 122 = .ok (.aload_n 0, 1) := by decide +kernel
theorem dX11_startMatch_123 : decode cX11_startMatch 123 = .ok (.getfield 60, 3) := by decide +kernel
theorem dX11_startMatch_126 : decode cX11_startMatch 126 = .ok (.iconst 0, 1) := by decide +kernel
theorem dX11_startMatch_127 : decode cX11_startMatch 127 = .ok (.putfield 153, 3) := by decide +kernel
theorem dX11_startMatch_130 : decode cX11_startMatch 130 = .ok (.return_, 1) := by decide +kernel
theorem dX11_fault_0 : decode cX11_fault 0 = .ok (.iload_n 1, 1) := by decide +kernel
theorem dX11_fault_1 : decode cX11_fault 1 = .ok (.ifCond .ne 11, 3) := by decide +kernel
theorem dX11_fault_4 : decode cX11_fault 4 = .ok (.aload_n 0, 1) := by decide +kernel
theorem dX11_fault_5 : decode cX11_fault 5 = .ok (.getfield 83, 3) := by decide +kernel
theorem dX11_fault_8 : decode cX11_fault 8 = .ok (.getfield 156, 3) := by decide +kernel
theorem dX11_fault_11 : decode cX11_fault 11 = .ok (.ireturn, 1) := by decide +kernel
theorem dX11_fault_12 : decode cX11_fault 12 = .ok (.iload_n 1, 1) := by decide +kernel
theorem dX11_fault_13 : decode cX11_fault 13 = .ok (.iconst 1, 1) := by decide +kernel
theorem dX11_fault_14 : decode cX11_fault 14 = .ok (.if_icmp .ne 13, 3) := by decide +kernel
theorem dX11_fault_17 : decode cX11_fault 17 = .ok (.aload_n 0, 1) := by decide +kernel
theorem dX11_fault_18 : decode cX11_fault 18 = .ok (.getfield 83, 3) := by decide +kernel
theorem dX11_fault_21 : decode cX11_fault 21 = .ok (.getfield 159, 3) := by decide +kernel
theorem dX11_fault_24 : decode cX11_fault 24 = .ok (.goto 4, 3) := by decide +kernel
theorem dX11_fault_27 : decode cX11_fault 27 = .ok (.iconst (-1), 1) := by decide +kernel
theorem dX11_fault_28 : decode cX11_fault 28 = .ok (.ireturn, 1) := by decide +kernel
theorem dX11_has_0 : decode cX11_has 0 = .ok (.iload_n 1, 1) := by decide +kernel
theorem dX11_has_1 : decode cX11_has 1 = .ok (.tableswitch 150 0 10 #[59, 70, 81, 89, 97, 105, 113, 121, 129, 137, 145], 59) := by decide +kernel
theorem dX11_has_60 : decode cX11_has 60 = .ok (.aload_n 0, 1) := by decide +kernel
theorem dX11_has_61 : decode cX11_has 61 = .ok (.getfield 71, 3) := by decide +kernel
theorem dX11_has_64 : decode cX11_has 64 = .ok (.getfield 162, 3) := by decide +kernel
theorem dX11_has_67 : decode cX11_has 67 = .ok (.getfield 166, 3) := by decide +kernel
theorem dX11_has_70 : decode cX11_has 70 = .ok (.ireturn, 1) := by decide +kernel
theorem dX11_has_71 : decode cX11_has 71 = .ok (.aload_n 0, 1) := by decide +kernel
theorem dX11_has_72 : decode cX11_has 72 = .ok (.getfield 71, 3) := by decide +kernel
theorem dX11_has_75 : decode cX11_has 75 = .ok (.getfield 162, 3) := by decide +kernel
theorem dX11_has_78 : decode cX11_has 78 = .ok (.getfield 170, 3) := by decide +kernel
theorem dX11_has_81 : decode cX11_has 81 = .ok (.ireturn, 1) := by decide +kernel
theorem dX11_has_82 : decode cX11_has 82 = .ok (.aload_n 0, 1) := by decide +kernel
theorem dX11_has_83 : decode cX11_has 83 = .ok (.getfield 71, 3) := by decide +kernel
theorem dX11_has_86 : decode cX11_has 86 = .ok (.getfield 130, 3) := by decide +kernel
theorem dX11_has_89 : decode cX11_has 89 = .ok (.ireturn, 1) := by decide +kernel
theorem dX11_has_90 : decode cX11_has 90 = .ok (.aload_n 0, 1) := by decide +kernel
theorem dX11_has_91 : decode cX11_has 91 = .ok (.getfield 71, 3) := by decide +kernel
theorem dX11_has_94 : decode cX11_has 94 = .ok (.getfield 173, 3) := by decide +kernel
theorem dX11_has_97 : decode cX11_has 97 = .ok (.ireturn, 1) := by decide +kernel
theorem dX11_has_98 : decode cX11_has 98 = .ok (.aload_n 0, 1) := by decide +kernel
theorem dX11_has_99 : decode cX11_has 99 = .ok (.getfield 43, 3) := by decide +kernel
theorem dX11_has_102 : decode cX11_has 102 = .ok (.getfield 176, 3) := by decide +kernel
theorem dX11_has_105 : decode cX11_has 105 = .ok (.ireturn, 1) := by decide +kernel
theorem dX11_has_106 : decode cX11_has 106 = .ok (.aload_n 0, 1) := by decide +kernel
theorem dX11_has_107 : decode cX11_has 107 = .ok (.getfield 43, 3) := by decide +kernel
theorem dX11_has_110 : decode cX11_has 110 = .ok (.getfield 177, 3) := by decide +kernel
theorem dX11_has_113 : decode cX11_has 113 = .ok (.ireturn, 1) := by decide +kernel
theorem dX11_has_114 : decode cX11_has 114 = .ok (.aload_n 0, 1) := by decide +kernel
theorem dX11_has_115 : decode cX11_has 115 = .ok (.getfield 43, 3) := by decide +kernel
theorem dX11_has_118 : decode cX11_has 118 = .ok (.getfield 180, 3) := by decide +kernel
theorem dX11_has_121 : decode cX11_has 121 = .ok (.ireturn, 1) := by decide +kernel
theorem dX11_has_122 : decode cX11_has 122 = .ok (.aload_n 0, 1) := by decide +kernel
theorem dX11_has_123 : decode cX11_has 123 = .ok (.getfield 53, 3) := by decide +kernel
theorem dX11_has_126 : decode cX11_has 126 = .ok (.invokevirtual 181, 3) := by decide +kernel
theorem dX11_has_129 : decode cX11_has 129 = .ok (.ireturn, 1) := by decide +kernel
theorem dX11_has_130 : decode cX11_has 130 = .ok (.aload_n 0, 1) := by decide +kernel
theorem dX11_has_131 : decode cX11_has 131 = .ok (.getfield 60, 3) := by decide +kernel
theorem dX11_has_134 : decode cX11_has 134 = .ok (.getfield 153, 3) := by decide +kernel
theorem dX11_has_137 : decode cX11_has 137 = .ok (.ireturn, 1) := by decide +kernel
theorem dX11_has_138 : decode cX11_has 138 = .ok (.aload_n 0, 1) := by decide +kernel
theorem dX11_has_139 : decode cX11_has 139 = .ok (.getfield 53, 3) := by decide +kernel
theorem dX11_has_142 : decode cX11_has 142 = .ok (.getfield 185, 3) := by decide +kernel
theorem dX11_has_145 : decode cX11_has 145 = .ok (.ireturn, 1) := by decide +kernel
theorem dX11_has_146 : decode cX11_has 146 = .ok (.aload_n 0, 1) := by decide +kernel
theorem dX11_has_147 : decode cX11_has 147 = .ok (.getfield 96, 3) := by decide +kernel
theorem dX11_has_150 : decode cX11_has 150 = .ok (.ireturn, 1) := by decide +kernel
theorem dX11_has_151 : decode cX11_has 151 = .ok (.iconst (-1), 1) := by decide +kernel
theorem dX11_has_152 : decode cX11_has 152 = .ok (.ireturn, 1) := by decide +kernel
theorem dX11_letter_0 : decode cX11_letter 0 = .ok (.aload_n 0, 1) := by decide +kernel
theorem dX11_letter_1 : decode cX11_letter 1 = .ok (.getfield 71, 3) := by decide +kernel
theorem dX11_letter_4 : decode cX11_letter 4 = .ok (.getfield 162, 3) := by decide +kernel
theorem dX11_letter_7 : decode cX11_letter 7 = .ok (.astore 4, 2) := by decide +kernel
theorem dX11_letter_9 : decode cX11_letter 9 = .ok (.iload_n 3, 1) := by decide +kernel
theorem dX11_letter_10 : decode cX11_letter 10 = .ok (.ifCond .lt 13, 3) := by decide +kernel
theorem dX11_letter_13 : decode cX11_letter 13 = .ok (.iload_n 3, 1) := by decide +kernel
theorem dX11_letter_14 : decode cX11_letter 14 = .ok (.bipush 6, 2) := by decide +kernel
theorem dX11_letter_16 : decode cX11_letter 16 = .ok (.if_icmp .ge 7, 3) := by decide +kernel
theorem dX11_letter_19 : decode cX11_letter 19 = .ok (.iload_n 2, 1) := by decide +kernel
theorem dX11_letter_20 : decode cX11_letter 20 = .ok (.ifCond .ge 5, 3) := by decide +kernel
theorem dX11_letter_23 : decode cX11_letter 23 = .ok (.iconst (-1), 1) := by decide +kernel
theorem dX11_letter_24 : decode cX11_letter 24 = .ok (.ireturn, 1) := by decide +kernel
theorem dX11_letter_25 : decode cX11_letter 25 = .ok (.iload_n 1, 1) := by decide +kernel
theorem dX11_letter_26 : decode cX11_letter 26 = .ok (.ifCond .ne 24, 3) := by decide +kernel
theorem dX11_letter_29 : decode cX11_letter 29 = .ok (.aload 4, 2) := by decide +kernel
theorem dX11_letter_31 : decode cX11_letter 31 = .ok (.iload_n 2, 1) := by decide +kernel
theorem dX11_letter_32 : decode cX11_letter 32 = .ok (.invokevirtual 188, 3) := by decide +kernel
theorem dX11_letter_35 : decode cX11_letter 35 = .ok (.ifCond .eq 15, 3) := by decide +kernel
theorem dX11_letter_38 : decode cX11_letter 38 = .ok (.aload 4, 2) := by decide +kernel
theorem dX11_letter_40 : decode cX11_letter 40 = .ok (.getfield 191, 3) := by decide +kernel
theorem dX11_letter_43 : decode cX11_letter 43 = .ok (.iload_n 2, 1) := by decide +kernel
theorem dX11_letter_44 : decode cX11_letter 44 = .ok (.iaload, 1) := by decide +kernel
theorem dX11_letter_45 : decode cX11_letter 45 = .ok (.iload_n 3, 1) := by decide +kernel
theorem dX11_letter_46 : decode cX11_letter 46 = .ok (.invokestatic 194, 3) := by decide +kernel
theorem dX11_letter_49 : decode cX11_letter 49 = .ok (.ireturn, 1) := by decide +kernel
theorem dX11_letter_50 : decode cX11_letter 50 = .ok (.iload_n 1, 1) := by decide +kernel
theorem dX11_letter_51 : decode cX11_letter 51 = .ok (.iconst 1, 1) := by decide +kernel
theorem dX11_letter_52 : decode cX11_letter 52 = .ok (.if_icmp .ne 24, 3) := by decide +kernel
theorem dX11_letter_55 : decode cX11_letter 55 = .ok (.aload 4, 2) := by decide +kernel
theorem dX11_letter_57 : decode cX11_letter 57 = .ok (.iload_n 2, 1) := by decide +kernel
theorem dX11_letter_58 : decode cX11_letter 58 = .ok (.invokevirtual 198, 3) := by decide +kernel
theorem dX11_letter_61 : decode cX11_letter 61 = .ok (.ifCond .eq 15, 3) := by decide +kernel
theorem dX11_letter_64 : decode cX11_letter 64 = .ok (.aload 4, 2) := by decide +kernel
theorem dX11_letter_66 : decode cX11_letter 66 = .ok (.getfield 201, 3) := by decide +kernel
theorem dX11_letter_69 : decode cX11_letter 69 = .ok (.iload_n 2, 1) := by decide +kernel
theorem dX11_letter_70 : decode cX11_letter 70 = .ok (.iaload, 1) := by decide +kernel
theorem dX11_letter_71 : decode cX11_letter 71 = .ok (.iload_n 3, 1) := by decide +kernel
theorem dX11_letter_72 : decode cX11_letter 72 = .ok (.invokestatic 194, 3) := by decide +kernel
theorem dX11_letter_75 : decode cX11_letter 75 = .ok (.ireturn, 1) := by decide +kernel
theorem dX11_letter_76 : decode cX11_letter 76 = .ok (.iconst (-1), 1) := by decide +kernel
theorem dX11_letter_77 : decode cX11_letter 77 = .ok (.ireturn, 1) := by decide +kernel
theorem dX11_values_0 : decode cX11_values 0 = .ok (.aload_n 0, 1) := by decide +kernel
theorem dX11_values_1 : decode cX11_values 1 = .ok (.invokevirtual 204, 3) := by decide +kernel
theorem dX11_values_4 : decode cX11_values 4 = .ok (.ifCond .eq 22, 3) := by decide +kernel
theorem dX11_values_7 : decode cX11_values 7 = .ok (.iload_n 1, 1) := by decide +kernel
theorem dX11_values_8 : decode cX11_values 8 = .ok (.iconst (-1), 1) := by decide +kernel
theorem dX11_values_9 : decode cX11_values 9 = .ok (.if_icmp .eq 19, 3) := by decide +kernel
theorem dX11_values_12 : decode cX11_values 12 = .ok (.aload_n 0, 1) := by decide +kernel
theorem dX11_values_13 : decode cX11_values 13 = .ok (.getfield 71, 3) := by decide +kernel
theorem dX11_values_16 : decode cX11_values 16 = .ok (.getfield 162, 3) := by decide +kernel
theorem dX11_values_19 : decode cX11_values 19 = .ok (.iload_n 1, 1) := by decide +kernel
theorem dX11_values_20 : decode cX11_values 20 = .ok (.invokevirtual 188, 3) := by decide +kernel
theorem dX11_values_23 : decode cX11_values 23 = .ok (.ifCond .ne 5, 3) := by decide +kernel
theorem dX11_values_26 : decode cX11_values 26 = .ok (.iconst (-1), 1) := by decide +kernel
theorem dX11_values_27 : decode cX11_values 27 = .ok (.ireturn, 1) := by decide +kernel
theorem dX11_values_28 : decode cX11_values 28 = .ok (.aload_n 0, 1) := by decide +kernel
theorem dX11_values_29 : decode cX11_values 29 = .ok (.getfield 71, 3) := by decide +kernel
theorem dX11_values_32 : decode cX11_values 32 = .ok (.getfield 162, 3) := by decide +kernel
theorem dX11_values_35 : decode cX11_values 35 = .ok (.iload_n 1, 1) := by decide +kernel
theorem dX11_values_36 : decode cX11_values 36 = .ok (.invokevirtual 208, 3) := by decide +kernel
theorem dX11_values_39 : decode cX11_values 39 = .ok (.ireturn, 1) := by decide +kernel
theorem dX11_arm_0 : decode cX11_arm 0 = .ok (.aload_n 0, 1) := by decide +kernel
theorem dX11_arm_1 : decode cX11_arm 1 = .ok (.getfield 43, 3) := by decide +kernel
theorem dX11_arm_4 : decode cX11_arm 4 = .ok (.iload_n 1, 1) := by decide +kernel
theorem dX11_arm_5 : decode cX11_arm 5 = .ok (.invokevirtual 212, 3) := by decide +kernel
theorem dX11_arm_8 : decode cX11_arm 8 = .ok (.istore_n 3, 1) := by decide +kernel
theorem dX11_arm_9 : decode cX11_arm 9 = .ok (.iload_n 3, 1) := by decide +kernel
theorem dX11_arm_10 : decode cX11_arm 10 = .ok (.iconst (-1), 1) := by decide +kernel
theorem dX11_arm_11 : decode cX11_arm 11 = .ok (.if_icmp .ne 5, 3) := by decide +kernel
theorem dX11_arm_14 : decode cX11_arm 14 = .ok (.iconst (-1), 1) := by decide +kernel
theorem dX11_arm_15 : decode cX11_arm 15 = .ok (.ireturn, 1) := by decide +kernel
theorem dX11_arm_16 : decode cX11_arm 16 = .ok (.iload_n 2, 1) := by decide +kernel
theorem dX11_arm_17 : decode cX11_arm 17 = .ok (.tableswitch 72 0 4 #[35, 37, 46, 60, 66], 35) := by decide +kernel
theorem dX11_arm_52 : decode cX11_arm 52 = .ok (.iload_n 3, 1) := by decide +kernel
theorem dX11_arm_53 : decode cX11_arm 53 = .ok (.ireturn, 1) := by decide +kernel
theorem dX11_arm_54 : decode cX11_arm 54 = .ok (.aload_n 0, 1) := by decide +kernel
theorem dX11_arm_55 : decode cX11_arm 55 = .ok (.getfield 71, 3) := by decide +kernel
theorem dX11_arm_58 : decode cX11_arm 58 = .ok (.iload_n 3, 1) := by decide +kernel
theorem dX11_arm_59 : decode cX11_arm 59 = .ok (.invokevirtual 215, 3) := by decide +kernel
theorem dX11_arm_62 : decode cX11_arm 62 = .ok (.ireturn, 1) := by decide +kernel
theorem dX11_arm_63 : decode cX11_arm 63 = .ok (.aload_n 0, 1) := by decide +kernel
theorem dX11_arm_64 : decode cX11_arm 64 = .ok (.iload_n 1, 1) := by decide +kernel
theorem dX11_arm_65 : decode cX11_arm 65 = .ok (.invokevirtual 218, 3) := by decide +kernel
theorem dX11_arm_68 : decode cX11_arm 68 = .ok (.ifCond .eq 7, 3) := by decide +kernel
theorem dX11_arm_71 : decode cX11_arm 71 = .ok (.iconst 1, 1) := by decide +kernel
theorem dX11_arm_72 : decode cX11_arm 72 = .ok (.goto 4, 3) := by decide +kernel
theorem dX11_arm_75 : decode cX11_arm 75 = .ok (.iconst 0, 1) := by decide +kernel
theorem dX11_arm_76 : decode cX11_arm 76 = .ok (.ireturn, 1) := by decide +kernel
theorem dX11_arm_77 : decode cX11_arm 77 = .ok (.aload_n 0, 1) := by decide +kernel
theorem dX11_arm_78 : decode cX11_arm 78 = .ok (.iload_n 3, 1) := by decide +kernel
theorem dX11_arm_79 : decode cX11_arm 79 = .ok (.invokevirtual 221, 3) := by decide +kernel
theorem dX11_arm_82 : decode cX11_arm 82 = .ok (.ireturn, 1) := by decide +kernel
theorem dX11_arm_83 : decode cX11_arm 83 = .ok (.aload_n 0, 1) := by decide +kernel
theorem dX11_arm_84 : decode cX11_arm 84 = .ok (.iload_n 1, 1) := by decide +kernel
theorem dX11_arm_85 : decode cX11_arm 85 = .ok (.invokevirtual 224, 3) := by decide +kernel
theorem dX11_arm_88 : decode cX11_arm 88 = .ok (.ireturn, 1) := by decide +kernel
theorem dX11_arm_89 : decode cX11_arm 89 = .ok (.iconst (-1), 1) := by decide +kernel
theorem dX11_arm_90 : decode cX11_arm 90 = .ok (.ireturn, 1) := by decide +kernel
theorem dX11_isUseful_0 : decode cX11_isUseful 0 = .ok (.aload_n 0, 1) := by decide +kernel
theorem dX11_isUseful_1 : decode cX11_isUseful 1 = .ok (.getfield 43, 3) := by decide +kernel
theorem dX11_isUseful_4 : decode cX11_isUseful 4 = .ok (.iload_n 1, 1) := by decide +kernel
theorem dX11_isUseful_5 : decode cX11_isUseful 5 = .ok (.invokevirtual 212, 3) := by decide +kernel
theorem dX11_isUseful_8 : decode cX11_isUseful 8 = .ok (.istore_n 2, 1) := by decide +kernel
theorem dX11_isUseful_9 : decode cX11_isUseful 9 = .ok (.aload_n 0, 1) := by decide +kernel
theorem dX11_isUseful_10 : decode cX11_isUseful 10 = .ok (.getfield 43, 3) := by decide +kernel
theorem dX11_isUseful_13 : decode cX11_isUseful 13 = .ok (.aload_n 0, 1) := by decide +kernel
theorem dX11_isUseful_14 : decode cX11_isUseful 14 = .ok (.getfield 71, 3) := by decide +kernel
theorem dX11_isUseful_17 : decode cX11_isUseful 17 = .ok (.iload_n 1, 1) := by decide +kernel
theorem dX11_isUseful_18 : decode cX11_isUseful 18 = .ok (.invokevirtual 227, 3) := by decide +kernel
theorem dX11_isUseful_21 : decode cX11_isUseful 21 = .ok (.istore_n 3, 1) := by decide +kernel
theorem dX11_isUseful_22 : decode cX11_isUseful 22 = .ok (.iconst 0, 1) := by decide +kernel
theorem dX11_isUseful_23 : decode cX11_isUseful 23 = .ok (.istore 4, 2) := by decide +kernel
theorem dX11_isUseful_25 : decode cX11_isUseful 25 = .ok (.iload 4, 2) := by decide +kernel
theorem dX11_isUseful_27 : decode cX11_isUseful 27 = .ok (.aload_n 0, 1) := by decide +kernel
theorem dX11_isUseful_28 : decode cX11_isUseful 28 = .ok (.getfield 33, 3) := by decide +kernel
theorem dX11_isUseful_31 : decode cX11_isUseful 31 = .ok (.getfield 231, 3) := by decide +kernel
theorem dX11_isUseful_34 : decode cX11_isUseful 34 = .ok (.if_icmp .ge 39, 3) := by decide +kernel
theorem dX11_isUseful_37 : decode cX11_isUseful 37 = .ok (.aload_n 0, 1) := by decide +kernel
theorem dX11_isUseful_38 : decode cX11_isUseful 38 = .ok (.getfield 33, 3) := by decide +kernel
theorem dX11_isUseful_41 : decode cX11_isUseful 41 = .ok (.getfield 232, 3) := by decide +kernel
theorem dX11_isUseful_44 : decode cX11_isUseful 44 = .ok (.iload 4, 2) := by decide +kernel
theorem dX11_isUseful_46 : decode cX11_isUseful 46 = .ok (.iaload, 1) := by decide +kernel
theorem dX11_isUseful_47 : decode cX11_isUseful 47 = .ok (.istore 5, 2) := by decide +kernel
theorem dX11_isUseful_49 : decode cX11_isUseful 49 = .ok (.iload 5, 2) := by decide +kernel
theorem dX11_isUseful_51 : decode cX11_isUseful 51 = .ok (.iload_n 2, 1) := by decide +kernel
theorem dX11_isUseful_52 : decode cX11_isUseful 52 = .ok (.invokestatic 234, 3) := by decide +kernel
theorem dX11_isUseful_55 : decode cX11_isUseful 55 = .ok (.ifCond .eq 12, 3) := by decide +kernel
theorem dX11_isUseful_58 : decode cX11_isUseful 58 = .ok (.iload 5, 2) := by decide +kernel
theorem dX11_isUseful_60 : decode cX11_isUseful 60 = .ok (.iload_n 3, 1) := by decide +kernel
theorem dX11_isUseful_61 : decode cX11_isUseful 61 = .ok (.iand, 1) := by decide +kernel
theorem dX11_isUseful_62 : decode cX11_isUseful 62 = .ok (.ifCond .ne 5, 3) := by decide +kernel
theorem dX11_isUseful_65 : decode cX11_isUseful 65 = .ok (.iconst 1, 1) := by decide +kernel
theorem dX11_isUseful_66 : decode cX11_isUseful 66 = .ok (.ireturn, 1) := by decide +kernel
theorem dX11_isUseful_67 : decode cX11_isUseful 67 = .ok (.iinc 4 1, 3) := by decide +kernel
theorem dX11_isUseful_70 : decode cX11_isUseful 70 = .ok (.goto (-45), 3) := by decide +kernel
theorem dX11_isUseful_73 : decode cX11_isUseful 73 = .ok (.iconst 0, 1) := by decide +kernel
theorem dX11_isUseful_74 : decode cX11_isUseful 74 = .ok (.ireturn, 1) := by decide +kernel
theorem dX11_rowsFitting_0 : decode cX11_rowsFitting 0 = .ok (.iconst 0, 1) := by decide +kernel
theorem dX11_rowsFitting_1 : decode cX11_rowsFitting 1 = .ok (.istore_n 2, 1) := by decide +kernel
theorem dX11_rowsFitting_2 : decode cX11_rowsFitting 2 = .ok (.iconst 0, 1) := by decide +kernel
theorem dX11_rowsFitting_3 : decode cX11_rowsFitting 3 = .ok (.istore_n 3, 1) := by decide +kernel
theorem dX11_rowsFitting_4 : decode cX11_rowsFitting 4 = .ok (.iload_n 3, 1) := by decide +kernel
theorem dX11_rowsFitting_5 : decode cX11_rowsFitting 5 = .ok (.aload_n 0, 1) := by decide +kernel
theorem dX11_rowsFitting_6 : decode cX11_rowsFitting 6 = .ok (.getfield 33, 3) := by decide +kernel
theorem dX11_rowsFitting_9 : decode cX11_rowsFitting 9 = .ok (.getfield 231, 3) := by decide +kernel
theorem dX11_rowsFitting_12 : decode cX11_rowsFitting 12 = .ok (.if_icmp .ge 37, 3) := by decide +kernel
theorem dX11_rowsFitting_15 : decode cX11_rowsFitting 15 = .ok (.aload_n 0, 1) := by decide +kernel
theorem dX11_rowsFitting_16 : decode cX11_rowsFitting 16 = .ok (.getfield 33, 3) := by decide +kernel
theorem dX11_rowsFitting_19 : decode cX11_rowsFitting 19 = .ok (.getfield 232, 3) := by decide +kernel
theorem dX11_rowsFitting_22 : decode cX11_rowsFitting 22 = .ok (.iload_n 3, 1) := by decide +kernel
theorem dX11_rowsFitting_23 : decode cX11_rowsFitting 23 = .ok (.iaload, 1) := by decide +kernel
theorem dX11_rowsFitting_24 : decode cX11_rowsFitting 24 = .ok (.iload_n 1, 1) := by decide +kernel
theorem dX11_rowsFitting_25 : decode cX11_rowsFitting 25 = .ok (.invokestatic 234, 3) := by decide +kernel
theorem dX11_rowsFitting_28 : decode cX11_rowsFitting 28 = .ok (.ifCond .eq 15, 3) := by decide +kernel
theorem dX11_rowsFitting_31 : decode cX11_rowsFitting 31 = .ok (.iload_n 2, 1) := by decide +kernel
theorem dX11_rowsFitting_32 : decode cX11_rowsFitting 32 = .ok (.aload_n 0, 1) := by decide +kernel
theorem dX11_rowsFitting_33 : decode cX11_rowsFitting 33 = .ok (.getfield 33, 3) := by decide +kernel
theorem dX11_rowsFitting_36 : decode cX11_rowsFitting 36 = .ok (.getfield 238, 3) := by decide +kernel
theorem dX11_rowsFitting_39 : decode cX11_rowsFitting 39 = .ok (.iload_n 3, 1) := by decide +kernel
theorem dX11_rowsFitting_40 : decode cX11_rowsFitting 40 = .ok (.iaload, 1) := by decide +kernel
theorem dX11_rowsFitting_41 : decode cX11_rowsFitting 41 = .ok (.iadd, 1) := by decide +kernel
theorem dX11_rowsFitting_42 : decode cX11_rowsFitting 42 = .ok (.istore_n 2, 1) := by decide +kernel
theorem dX11_rowsFitting_43 : decode cX11_rowsFitting 43 = .ok (.iinc 3 1, 3) := by decide +kernel
theorem dX11_rowsFitting_46 : decode cX11_rowsFitting 46 = .ok (.goto (-42), 3) := by decide +kernel
theorem dX11_rowsFitting_49 : decode cX11_rowsFitting 49 = .ok (.iload_n 2, 1) := by decide +kernel
theorem dX11_rowsFitting_50 : decode cX11_rowsFitting 50 = .ok (.ireturn, 1) := by decide +kernel
theorem dX11_rowsTaken_0 : decode cX11_rowsTaken 0 = .ok (.iconst 0, 1) := by decide +kernel
theorem dX11_rowsTaken_1 : decode cX11_rowsTaken 1 = .ok (.istore_n 2, 1) := by decide +kernel
theorem dX11_rowsTaken_2 : decode cX11_rowsTaken 2 = .ok (.iconst 0, 1) := by decide +kernel
theorem dX11_rowsTaken_3 : decode cX11_rowsTaken 3 = .ok (.istore_n 3, 1) := by decide +kernel
theorem dX11_rowsTaken_4 : decode cX11_rowsTaken 4 = .ok (.iload_n 3, 1) := by decide +kernel
theorem dX11_rowsTaken_5 : decode cX11_rowsTaken 5 = .ok (.aload_n 0, 1) := by decide +kernel
theorem dX11_rowsTaken_6 : decode cX11_rowsTaken 6 = .ok (.getfield 33, 3) := by decide +kernel
theorem dX11_rowsTaken_9 : decode cX11_rowsTaken 9 = .ok (.getfield 231, 3) := by decide +kernel
theorem dX11_rowsTaken_12 : decode cX11_rowsTaken 12 = .ok (.if_icmp .ge 52, 3) := by decide +kernel
theorem dX11_rowsTaken_15 : decode cX11_rowsTaken 15 = .ok (.aload_n 0, 1) := by decide +kernel
theorem dX11_rowsTaken_16 : decode cX11_rowsTaken 16 = .ok (.getfield 43, 3) := by decide +kernel
theorem dX11_rowsTaken_19 : decode cX11_rowsTaken 19 = .ok (.aload_n 0, 1) := by decide +kernel
theorem dX11_rowsTaken_20 : decode cX11_rowsTaken 20 = .ok (.getfield 71, 3) := by decide +kernel
theorem dX11_rowsTaken_23 : decode cX11_rowsTaken 23 = .ok (.aload_n 0, 1) := by decide +kernel
theorem dX11_rowsTaken_24 : decode cX11_rowsTaken 24 = .ok (.getfield 33, 3) := by decide +kernel
theorem dX11_rowsTaken_27 : decode cX11_rowsTaken 27 = .ok (.getfield 232, 3) := by decide +kernel
theorem dX11_rowsTaken_30 : decode cX11_rowsTaken 30 = .ok (.iload_n 3, 1) := by decide +kernel
theorem dX11_rowsTaken_31 : decode cX11_rowsTaken 31 = .ok (.iaload, 1) := by decide +kernel
theorem dX11_rowsTaken_32 : decode cX11_rowsTaken 32 = .ok (.aload_n 0, 1) := by decide +kernel
theorem dX11_rowsTaken_33 : decode cX11_rowsTaken 33 = .ok (.getfield 43, 3) := by decide +kernel
theorem dX11_rowsTaken_36 : decode cX11_rowsTaken 36 = .ok (.getfield 177, 3) := by decide +kernel
theorem dX11_rowsTaken_39 : decode cX11_rowsTaken 39 = .ok (.invokevirtual 241, 3) := by decide +kernel
