section
section
theorem dX0_init_0 : decode cX0_init 0 = .ok (.aload_n 0, 1) := dq_42 (fd_r fcX0_init (by decide +kernel))
theorem dX0_init_1 : decode cX0_init 1 = .ok (.invokespecial 3, 3) := dq_183 (a := 0) (b := 3) (fd_r fcX0_init (by decide +kernel)) rfl
theorem dX0_init_4 : decode cX0_init 4 = .ok (.aload_n 0, 1) := dq_42 (fd_r fcX0_init (by decide +kernel))
theorem dX0_init_5 : decode cX0_init 5 = .ok (.sipush 1024, 3) := dq_17 (a := 4) (b := 0) (fd_r fcX0_init (by decide +kernel)) rfl
theorem dX0_init_8 : decode cX0_init 8 = .ok (.newarray .int, 2) := by decide +kernel
theorem dX0_init_10 : decode cX0_init 10 = .ok (.putfield 9, 3) := dq_181 (a := 0) (b := 9) (fd_r fcX0_init (by decide +kernel)) rfl
theorem dX0_init_13 : decode cX0_init 13 = .ok (.aload_n 0, 1) := dq_42 (fd_r fcX0_init (by decide +kernel))
theorem dX0_init_14 : decode cX0_init 14 = .ok (.sipush 1024, 3) := dq_17 (a := 4) (b := 0) (fd_r fcX0_init (by decide +kernel)) rfl
theorem dX0_init_17 : decode cX0_init 17 = .ok (.newarray .int, 2) := by decide +kernel
theorem dX0_init_19 : decode cX0_init 19 = .ok (.putfield 15, 3) := dq_181 (a := 0) (b := 15) (fd_r fcX0_init (by decide +kernel)) rfl
theorem dX0_init_22 : decode cX0_init 22 = .ok (.aload_n 0, 1) := dq_42 (fd_r fcX0_init (by decide +kernel))
theorem dX0_init_23 : decode cX0_init 23 = .ok (.sipush 1024, 3) := dq_17 (a := 4) (b := 0) (fd_r fcX0_init (by decide +kernel)) rfl
theorem dX0_init_26 : decode cX0_init 26 = .ok (.newarray .int, 2) := by decide +kernel
theorem dX0_init_28 : decode cX0_init 28 = .ok (.putfield 18, 3) := dq_181 (a := 0) (b := 18) (fd_r fcX0_init (by decide +kernel)) rfl
theorem dX0_init_31 : decode cX0_init 31 = .ok (.aload_n 0, 1) := dq_42 (fd_r fcX0_init (by decide +kernel))
theorem dX0_init_32 : decode cX0_init 32 = .ok (.bipush 20, 2) := dq_16 (a := 20) (fd_r fcX0_init (by decide +kernel)) rfl
theorem dX0_init_34 : decode cX0_init 34 = .ok (.anewarray 21, 3) := dq_189 (a := 0) (b := 21) (fd_r fcX0_init (by decide +kernel)) rfl
theorem dX0_init_37 : decode cX0_init 37 = .ok (.putfield 23, 3) := dq_181 (a := 0) (b := 23) (fd_r fcX0_init (by decide +kernel)) rfl
theorem dX0_init_40 : decode cX0_init 40 = .ok (.aload_n 0, 1) := dq_42 (fd_r fcX0_init (by decide +kernel))
theorem dX0_init_41 : decode cX0_init 41 = .ok (.bipush 20, 2) := dq_16 (a := 20) (fd_r fcX0_init (by decide +kernel)) rfl
theorem dX0_init_43 : decode cX0_init 43 = .ok (.newarray .int, 2) := by decide +kernel
theorem dX0_init_45 : decode cX0_init 45 = .ok (.putfield 27, 3) := dq_181 (a := 0) (b := 27) (fd_r fcX0_init (by decide +kernel)) rfl
theorem dX0_init_48 : decode cX0_init 48 = .ok (.iconst 0, 1) := dq_3 (fd_r fcX0_init (by decide +kernel))
theorem dX0_init_49 : decode cX0_init 49 = .ok (.istore_n 1, 1) := dq_60 (fd_r fcX0_init (by decide +kernel))
theorem dX0_init_50 : decode cX0_init 50 = .ok (.iload_n 1, 1) := dq_27 (fd_r fcX0_init (by decide +kernel))
theorem dX0_init_51 : decode cX0_init 51 = .ok (.bipush 20, 2) := dq_16 (a := 20) (fd_r fcX0_init (by decide +kernel)) rfl
theorem dX0_init_53 : decode cX0_init 53 = .ok (.if_icmp .ge 22, 3) := dq_162 (a := 0) (b := 22) (fd_r fcX0_init (by decide +kernel)) rfl
theorem dX0_init_56 : decode cX0_init 56 = .ok (.aload_n 0, 1) := dq_42 (fd_r fcX0_init (by decide +kernel))
theorem dX0_init_57 : decode cX0_init 57 = .ok (.getfield 23, 3) := dq_180 (a := 0) (b := 23) (fd_r fcX0_init (by decide +kernel)) rfl
theorem dX0_init_60 : decode cX0_init 60 = .ok (.iload_n 1, 1) := dq_27 (fd_r fcX0_init (by decide +kernel))
theorem dX0_init_61 : decode cX0_init 61 = .ok (.new 21, 3) := dq_187 (a := 0) (b := 21) (fd_r fcX0_init (by decide +kernel)) rfl
theorem dX0_init_64 : decode cX0_init 64 = .ok (.dup, 1) := dq_89 (fd_r fcX0_init (by decide +kernel))
theorem dX0_init_65 : decode cX0_init 65 = .ok (.invokespecial 30, 3) := dq_183 (a := 0) (b := 30) (fd_r fcX0_init (by decide +kernel)) rfl
theorem dX0_init_68 : decode cX0_init 68 = .ok (.aastore, 1) := dq_83 (fd_r fcX0_init (by decide +kernel))
theorem dX0_init_69 : decode cX0_init 69 = .ok (.iinc 1 1, 3) := dq_132 (a := 1) (b := 1) (fd_r fcX0_init (by decide +kernel)) rfl
theorem dX0_init_72 : decode cX0_init 72 = .ok (.goto (-22), 3) := dq_167 (a := 255) (b := 234) (fd_r fcX0_init (by decide +kernel)) rfl
theorem dX0_init_75 : decode cX0_init 75 = .ok (.return_, 1) := dq_177 (fd_r fcX0_init (by decide +kernel))
theorem dX0_clear_0 : decode cX0_clear 0 = .ok (.aload_n 0, 1) := dq_42 (fd_r fcX0_clear (by decide +kernel))
theorem dX0_clear_1 : decode cX0_clear 1 = .ok (.iconst 0, 1) := dq_3 (fd_r fcX0_clear (by decide +kernel))
theorem dX0_clear_2 : decode cX0_clear 2 = .ok (.putfield 31, 3) := dq_181 (a := 0) (b := 31) (fd_r fcX0_clear (by decide +kernel)) rfl
theorem dX0_clear_5 : decode cX0_clear 5 = .ok (.aload_n 0, 1) := dq_42 (fd_r fcX0_clear (by decide +kernel))
theorem dX0_clear_6 : decode cX0_clear 6 = .ok (.iconst 0, 1) := dq_3 (fd_r fcX0_clear (by decide +kernel))
theorem dX0_clear_7 : decode cX0_clear 7 = .ok (.putfield 35, 3) := dq_181 (a := 0) (b := 35) (fd_r fcX0_clear (by decide +kernel)) rfl
theorem dX0_clear_10 : decode cX0_clear 10 = .ok (.return_, 1) := dq_177 (fd_r fcX0_clear (by decide +kernel))
theorem dX0_keptTold_0 : decode cX0_keptTold 0 = .ok (.aload_n 0, 1) := dq_42 (fd_r fcX0_keptTold (by decide +kernel))
theorem dX0_keptTold_1 : decode cX0_keptTold 1 = .ok (.getfield 31, 3) := dq_180 (a := 0) (b := 31) (fd_r fcX0_keptTold (by decide +kernel)) rfl
theorem dX0_keptTold_4 : decode cX0_keptTold 4 = .ok (.bipush 40, 2) := dq_16 (a := 40) (fd_r fcX0_keptTold (by decide +kernel)) rfl
theorem dX0_keptTold_6 : decode cX0_keptTold 6 = .ok (.invokestatic 38, 3) := dq_184 (a := 0) (b := 38) (fd_r fcX0_keptTold (by decide +kernel)) rfl
theorem dX0_keptTold_9 : decode cX0_keptTold 9 = .ok (.ireturn, 1) := dq_172 (fd_r fcX0_keptTold (by decide +kernel))
theorem dX0_keep_0 : decode cX0_keep 0 = .ok (.aload_n 0, 1) := dq_42 (fd_r fcX0_keep (by decide +kernel))
theorem dX0_keep_1 : decode cX0_keep 1 = .ok (.getfield 31, 3) := dq_180 (a := 0) (b := 31) (fd_r fcX0_keep (by decide +kernel)) rfl
theorem dX0_keep_4 : decode cX0_keep 4 = .ok (.sipush 1024, 3) := dq_17 (a := 4) (b := 0) (fd_r fcX0_keep (by decide +kernel)) rfl
theorem dX0_keep_7 : decode cX0_keep 7 = .ok (.invokestatic 44, 3) := dq_184 (a := 0) (b := 44) (fd_r fcX0_keep (by decide +kernel)) rfl
theorem dX0_keep_10 : decode cX0_keep 10 = .ok (.istore 4, 2) := dq_54 (a := 4) (fd_r fcX0_keep (by decide +kernel))
theorem dX0_keep_12 : decode cX0_keep 12 = .ok (.aload_n 0, 1) := dq_42 (fd_r fcX0_keep (by decide +kernel))
theorem dX0_keep_13 : decode cX0_keep 13 = .ok (.getfield 9, 3) := dq_180 (a := 0) (b := 9) (fd_r fcX0_keep (by decide +kernel)) rfl
theorem dX0_keep_16 : decode cX0_keep 16 = .ok (.iload 4, 2) := dq_21 (a := 4) (fd_r fcX0_keep (by decide +kernel))
theorem dX0_keep_18 : decode cX0_keep 18 = .ok (.iload_n 1, 1) := dq_27 (fd_r fcX0_keep (by decide +kernel))
theorem dX0_keep_19 : decode cX0_keep 19 = .ok (.iastore, 1) := dq_79 (fd_r fcX0_keep (by decide +kernel))
theorem dX0_keep_20 : decode cX0_keep 20 = .ok (.aload_n 0, 1) := dq_42 (fd_r fcX0_keep (by decide +kernel))
theorem dX0_keep_21 : decode cX0_keep 21 = .ok (.getfield 15, 3) := dq_180 (a := 0) (b := 15) (fd_r fcX0_keep (by decide +kernel)) rfl
theorem dX0_keep_24 : decode cX0_keep 24 = .ok (.iload 4, 2) := dq_21 (a := 4) (fd_r fcX0_keep (by decide +kernel))
theorem dX0_keep_26 : decode cX0_keep 26 = .ok (.iload_n 2, 1) := dq_28 (fd_r fcX0_keep (by decide +kernel))
theorem dX0_keep_27 : decode cX0_keep 27 = .ok (.iastore, 1) := dq_79 (fd_r fcX0_keep (by decide +kernel))
theorem dX0_keep_28 : decode cX0_keep 28 = .ok (.aload_n 0, 1) := dq_42 (fd_r fcX0_keep (by decide +kernel))
theorem dX0_keep_29 : decode cX0_keep 29 = .ok (.getfield 18, 3) := dq_180 (a := 0) (b := 18) (fd_r fcX0_keep (by decide +kernel)) rfl
theorem dX0_keep_32 : decode cX0_keep 32 = .ok (.iload 4, 2) := dq_21 (a := 4) (fd_r fcX0_keep (by decide +kernel))
theorem dX0_keep_34 : decode cX0_keep 34 = .ok (.iload_n 3, 1) := dq_29 (fd_r fcX0_keep (by decide +kernel))
theorem dX0_keep_35 : decode cX0_keep 35 = .ok (.iastore, 1) := dq_79 (fd_r fcX0_keep (by decide +kernel))
theorem dX0_keep_36 : decode cX0_keep 36 = .ok (.aload_n 0, 1) := dq_42 (fd_r fcX0_keep (by decide +kernel))
theorem dX0_keep_37 : decode cX0_keep 37 = .ok (.dup, 1) := dq_89 (fd_r fcX0_keep (by decide +kernel))
theorem dX0_keep_38 : decode cX0_keep 38 = .ok (.getfield 31, 3) := dq_180 (a := 0) (b := 31) (fd_r fcX0_keep (by decide +kernel)) rfl
theorem dX0_keep_41 : decode cX0_keep 41 = .ok (.iconst 1, 1) := dq_4 (fd_r fcX0_keep (by decide +kernel))
theorem dX0_keep_42 : decode cX0_keep 42 = .ok (.iadd, 1) := dq_96 (fd_r fcX0_keep (by decide +kernel))
theorem dX0_keep_43 : decode cX0_keep 43 = .ok (.putfield 31, 3) := dq_181 (a := 0) (b := 31) (fd_r fcX0_keep (by decide +kernel)) rfl
theorem dX0_keep_46 : decode cX0_keep 46 = .ok (.return_, 1) := dq_177 (fd_r fcX0_keep (by decide +kernel))
theorem dX0_tellKept_0 : decode cX0_tellKept 0 = .ok (.iload_n 1, 1) := dq_27 (fd_r fcX0_tellKept (by decide +kernel))
theorem dX0_tellKept_1 : decode cX0_tellKept 1 = .ok (.ifCond .lt 11, 3) := dq_155 (a := 0) (b := 11) (fd_r fcX0_tellKept (by decide +kernel)) rfl
theorem dX0_tellKept_4 : decode cX0_tellKept 4 = .ok (.iload_n 1, 1) := dq_27 (fd_r fcX0_tellKept (by decide +kernel))
theorem dX0_tellKept_5 : decode cX0_tellKept 5 = .ok (.aload_n 0, 1) := dq_42 (fd_r fcX0_tellKept (by decide +kernel))
theorem dX0_tellKept_6 : decode cX0_tellKept 6 = .ok (.invokevirtual 47, 3) := dq_182 (a := 0) (b := 47) (fd_r fcX0_tellKept (by decide +kernel)) rfl
theorem dX0_tellKept_9 : decode cX0_tellKept 9 = .ok (.if_icmp .lt 5, 3) := dq_161 (a := 0) (b := 5) (fd_r fcX0_tellKept (by decide +kernel)) rfl
theorem dX0_tellKept_12 : decode cX0_tellKept 12 = .ok (.iconst (-1), 1) := dq_2 (fd_r fcX0_tellKept (by decide +kernel))
theorem dX0_tellKept_13 : decode cX0_tellKept 13 = .ok (.ireturn, 1) := dq_172 (fd_r fcX0_tellKept (by decide +kernel))
theorem dX0_tellKept_14 : decode cX0_tellKept 14 = .ok (.aload_n 0, 1) := dq_42 (fd_r fcX0_tellKept (by decide +kernel))
theorem dX0_tellKept_15 : decode cX0_tellKept 15 = .ok (.getfield 31, 3) := dq_180 (a := 0) (b := 31) (fd_r fcX0_tellKept (by decide +kernel)) rfl
theorem dX0_tellKept_18 : decode cX0_tellKept 18 = .ok (.aload_n 0, 1) := dq_42 (fd_r fcX0_tellKept (by decide +kernel))
theorem dX0_tellKept_19 : decode cX0_tellKept 19 = .ok (.invokevirtual 47, 3) := dq_182 (a := 0) (b := 47) (fd_r fcX0_tellKept (by decide +kernel)) rfl
theorem dX0_tellKept_22 : decode cX0_tellKept 22 = .ok (.isub, 1) := dq_100 (fd_r fcX0_tellKept (by decide +kernel))
theorem dX0_tellKept_23 : decode cX0_tellKept 23 = .ok (.iload_n 1, 1) := dq_27 (fd_r fcX0_tellKept (by decide +kernel))
theorem dX0_tellKept_24 : decode cX0_tellKept 24 = .ok (.iadd, 1) := dq_96 (fd_r fcX0_tellKept (by decide +kernel))
theorem dX0_tellKept_25 : decode cX0_tellKept 25 = .ok (.sipush 1024, 3) := dq_17 (a := 4) (b := 0) (fd_r fcX0_tellKept (by decide +kernel)) rfl
theorem dX0_tellKept_28 : decode cX0_tellKept 28 = .ok (.invokestatic 44, 3) := dq_184 (a := 0) (b := 44) (fd_r fcX0_tellKept (by decide +kernel)) rfl
theorem dX0_tellKept_31 : decode cX0_tellKept 31 = .ok (.istore_n 3, 1) := dq_62 (fd_r fcX0_tellKept (by decide +kernel))
theorem dX0_tellKept_32 : decode cX0_tellKept 32 = .ok (.iload_n 2, 1) := dq_28 (fd_r fcX0_tellKept (by decide +kernel))
theorem dX0_tellKept_33 : decode cX0_tellKept 33 = .ok (.tableswitch 48 0 2 #[27, 34, 41], 27) := by decide +kernel
theorem dX0_tellKept_60 : decode cX0_tellKept 60 = .ok (.aload_n 0, 1) := dq_42 (fd_r fcX0_tellKept (by decide +kernel))
theorem dX0_tellKept_61 : decode cX0_tellKept 61 = .ok (.getfield 9, 3) := dq_180 (a := 0) (b := 9) (fd_r fcX0_tellKept (by decide +kernel)) rfl
theorem dX0_tellKept_64 : decode cX0_tellKept 64 = .ok (.iload_n 3, 1) := dq_29 (fd_r fcX0_tellKept (by decide +kernel))
theorem dX0_tellKept_65 : decode cX0_tellKept 65 = .ok (.iaload, 1) := dq_46 (fd_r fcX0_tellKept (by decide +kernel))
theorem dX0_tellKept_66 : decode cX0_tellKept 66 = .ok (.ireturn, 1) := dq_172 (fd_r fcX0_tellKept (by decide +kernel))
theorem dX0_tellKept_67 : decode cX0_tellKept 67 = .ok (.aload_n 0, 1) := dq_42 (fd_r fcX0_tellKept (by decide +kernel))
theorem dX0_tellKept_68 : decode cX0_tellKept 68 = .ok (.getfield 15, 3) := dq_180 (a := 0) (b := 15) (fd_r fcX0_tellKept (by decide +kernel)) rfl
theorem dX0_tellKept_71 : decode cX0_tellKept 71 = .ok (.iload_n 3, 1) := dq_29 (fd_r fcX0_tellKept (by decide +kernel))
theorem dX0_tellKept_72 : decode cX0_tellKept 72 = .ok (.iaload, 1) := dq_46 (fd_r fcX0_tellKept (by decide +kernel))
theorem dX0_tellKept_73 : decode cX0_tellKept 73 = .ok (.ireturn, 1) := dq_172 (fd_r fcX0_tellKept (by decide +kernel))
theorem dX0_tellKept_74 : decode cX0_tellKept 74 = .ok (.aload_n 0, 1) := dq_42 (fd_r fcX0_tellKept (by decide +kernel))
theorem dX0_tellKept_75 : decode cX0_tellKept 75 = .ok (.getfield 18, 3) := dq_180 (a := 0) (b := 18) (fd_r fcX0_tellKept (by decide +kernel)) rfl
theorem dX0_tellKept_78 : decode cX0_tellKept 78 = .ok (.iload_n 3, 1) := dq_29 (fd_r fcX0_tellKept (by decide +kernel))
theorem dX0_tellKept_79 : decode cX0_tellKept 79 = .ok (.iaload, 1) := dq_46 (fd_r fcX0_tellKept (by decide +kernel))
theorem dX0_tellKept_80 : decode cX0_tellKept 80 = .ok (.ireturn, 1) := dq_172 (fd_r fcX0_tellKept (by decide +kernel))
theorem dX0_tellKept_81 : decode cX0_tellKept 81 = .ok (.iconst (-1), 1) := dq_2 (fd_r fcX0_tellKept (by decide +kernel))
theorem dX0_tellKept_82 : decode cX0_tellKept 82 = .ok (.ireturn, 1) := dq_172 (fd_r fcX0_tellKept (by decide +kernel))
theorem dX0_remember_0 : decode cX0_remember 0 = .ok (.aload_n 0, 1) := dq_42 (fd_r fcX0_remember (by decide +kernel))
theorem dX0_remember_1 : decode cX0_remember 1 = .ok (.getfield 51, 3) := dq_180 (a := 0) (b := 51) (fd_r fcX0_remember (by decide +kernel)) rfl
theorem dX0_remember_4 : decode cX0_remember 4 = .ok (.bipush 20, 2) := dq_16 (a := 20) (fd_r fcX0_remember (by decide +kernel)) rfl
theorem dX0_remember_6 : decode cX0_remember 6 = .ok (.invokestatic 44, 3) := dq_184 (a := 0) (b := 44) (fd_r fcX0_remember (by decide +kernel)) rfl
theorem dX0_remember_9 : decode cX0_remember 9 = .ok (.istore_n 2, 1) := dq_61 (fd_r fcX0_remember (by decide +kernel))
theorem dX0_remember_10 : decode cX0_remember 10 = .ok (.aload_n 0, 1) := dq_42 (fd_r fcX0_remember (by decide +kernel))
theorem dX0_remember_11 : decode cX0_remember 11 = .ok (.getfield 23, 3) := dq_180 (a := 0) (b := 23) (fd_r fcX0_remember (by decide +kernel)) rfl
theorem dX0_remember_14 : decode cX0_remember 14 = .ok (.iload_n 2, 1) := dq_28 (fd_r fcX0_remember (by decide +kernel))
theorem dX0_remember_15 : decode cX0_remember 15 = .ok (.aaload, 1) := dq_50 (fd_r fcX0_remember (by decide +kernel))
theorem dX0_remember_16 : decode cX0_remember 16 = .ok (.aload_n 1, 1) := dq_43 (fd_r fcX0_remember (by decide +kernel))
theorem dX0_remember_17 : decode cX0_remember 17 = .ok (.invokevirtual 54, 3) := dq_182 (a := 0) (b := 54) (fd_r fcX0_remember (by decide +kernel)) rfl
theorem dX0_remember_20 : decode cX0_remember 20 = .ok (.aload_n 0, 1) := dq_42 (fd_r fcX0_remember (by decide +kernel))
theorem dX0_remember_21 : decode cX0_remember 21 = .ok (.getfield 27, 3) := dq_180 (a := 0) (b := 27) (fd_r fcX0_remember (by decide +kernel)) rfl
theorem dX0_remember_24 : decode cX0_remember 24 = .ok (.iload_n 2, 1) := dq_28 (fd_r fcX0_remember (by decide +kernel))
theorem dX0_remember_25 : decode cX0_remember 25 = .ok (.aload_n 0, 1) := dq_42 (fd_r fcX0_remember (by decide +kernel))
theorem dX0_remember_26 : decode cX0_remember 26 = .ok (.getfield 31, 3) := dq_180 (a := 0) (b := 31) (fd_r fcX0_remember (by decide +kernel)) rfl
theorem dX0_remember_29 : decode cX0_remember 29 = .ok (.iastore, 1) := dq_79 (fd_r fcX0_remember (by decide +kernel))
theorem dX0_remember_30 : decode cX0_remember 30 = .ok (.aload_n 0, 1) := dq_42 (fd_r fcX0_remember (by decide +kernel))
theorem dX0_remember_31 : decode cX0_remember 31 = .ok (.iload_n 2, 1) := dq_28 (fd_r fcX0_remember (by decide +kernel))
theorem dX0_remember_32 : decode cX0_remember 32 = .ok (.iconst 1, 1) := dq_4 (fd_r fcX0_remember (by decide +kernel))
theorem dX0_remember_33 : decode cX0_remember 33 = .ok (.iadd, 1) := dq_96 (fd_r fcX0_remember (by decide +kernel))
theorem dX0_remember_34 : decode cX0_remember 34 = .ok (.putfield 51, 3) := dq_181 (a := 0) (b := 51) (fd_r fcX0_remember (by decide +kernel)) rfl
theorem dX0_remember_37 : decode cX0_remember 37 = .ok (.aload_n 0, 1) := dq_42 (fd_r fcX0_remember (by decide +kernel))
theorem dX0_remember_38 : decode cX0_remember 38 = .ok (.aload_n 0, 1) := dq_42 (fd_r fcX0_remember (by decide +kernel))
theorem dX0_remember_39 : decode cX0_remember 39 = .ok (.getfield 35, 3) := dq_180 (a := 0) (b := 35) (fd_r fcX0_remember (by decide +kernel)) rfl
theorem dX0_remember_42 : decode cX0_remember 42 = .ok (.iconst 1, 1) := dq_4 (fd_r fcX0_remember (by decide +kernel))
theorem dX0_remember_43 : decode cX0_remember 43 = .ok (.iadd, 1) := dq_96 (fd_r fcX0_remember (by decide +kernel))
theorem dX0_remember_44 : decode cX0_remember 44 = .ok (.bipush 20, 2) := dq_16 (a := 20) (fd_r fcX0_remember (by decide +kernel)) rfl
theorem dX0_remember_46 : decode cX0_remember 46 = .ok (.invokestatic 38, 3) := dq_184 (a := 0) (b := 38) (fd_r fcX0_remember (by decide +kernel)) rfl
theorem dX0_remember_49 : decode cX0_remember 49 = .ok (.putfield 35, 3) := dq_181 (a := 0) (b := 35) (fd_r fcX0_remember (by decide +kernel)) rfl
theorem dX0_remember_52 : decode cX0_remember 52 = .ok (.return_, 1) := dq_177 (fd_r fcX0_remember (by decide +kernel))
theorem dX0_takeBack_0 : decode cX0_takeBack 0 = .ok (.aload_n 0, 1) := dq_42 (fd_r fcX0_takeBack (by decide +kernel))
theorem dX0_takeBack_1 : decode cX0_takeBack 1 = .ok (.getfield 51, 3) := dq_180 (a := 0) (b := 51) (fd_r fcX0_takeBack (by decide +kernel)) rfl
theorem dX0_takeBack_4 : decode cX0_takeBack 4 = .ok (.iconst 1, 1) := dq_4 (fd_r fcX0_takeBack (by decide +kernel))
theorem dX0_takeBack_5 : decode cX0_takeBack 5 = .ok (.isub, 1) := dq_100 (fd_r fcX0_takeBack (by decide +kernel))
theorem dX0_takeBack_6 : decode cX0_takeBack 6 = .ok (.bipush 20, 2) := dq_16 (a := 20) (fd_r fcX0_takeBack (by decide +kernel)) rfl
theorem dX0_takeBack_8 : decode cX0_takeBack 8 = .ok (.invokestatic 44, 3) := dq_184 (a := 0) (b := 44) (fd_r fcX0_takeBack (by decide +kernel)) rfl
theorem dX0_takeBack_11 : decode cX0_takeBack 11 = .ok (.istore_n 2, 1) := dq_61 (fd_r fcX0_takeBack (by decide +kernel))
theorem dX0_takeBack_12 : decode cX0_takeBack 12 = .ok (.aload_n 1, 1) := dq_43 (fd_r fcX0_takeBack (by decide +kernel))
theorem dX0_takeBack_13 : decode cX0_takeBack 13 = .ok (.aload_n 0, 1) := dq_42 (fd_r fcX0_takeBack (by decide +kernel))
theorem dX0_takeBack_14 : decode cX0_takeBack 14 = .ok (.getfield 23, 3) := dq_180 (a := 0) (b := 23) (fd_r fcX0_takeBack (by decide +kernel)) rfl
theorem dX0_takeBack_17 : decode cX0_takeBack 17 = .ok (.iload_n 2, 1) := dq_28 (fd_r fcX0_takeBack (by decide +kernel))
theorem dX0_takeBack_18 : decode cX0_takeBack 18 = .ok (.aaload, 1) := dq_50 (fd_r fcX0_takeBack (by decide +kernel))
theorem dX0_takeBack_19 : decode cX0_takeBack 19 = .ok (.invokevirtual 54, 3) := dq_182 (a := 0) (b := 54) (fd_r fcX0_takeBack (by decide +kernel)) rfl
theorem dX0_takeBack_22 : decode cX0_takeBack 22 = .ok (.aload_n 0, 1) := dq_42 (fd_r fcX0_takeBack (by decide +kernel))
theorem dX0_takeBack_23 : decode cX0_takeBack 23 = .ok (.aload_n 0, 1) := dq_42 (fd_r fcX0_takeBack (by decide +kernel))
theorem dX0_takeBack_24 : decode cX0_takeBack 24 = .ok (.getfield 27, 3) := dq_180 (a := 0) (b := 27) (fd_r fcX0_takeBack (by decide +kernel)) rfl
theorem dX0_takeBack_27 : decode cX0_takeBack 27 = .ok (.iload_n 2, 1) := dq_28 (fd_r fcX0_takeBack (by decide +kernel))
theorem dX0_takeBack_28 : decode cX0_takeBack 28 = .ok (.iaload, 1) := dq_46 (fd_r fcX0_takeBack (by decide +kernel))
theorem dX0_takeBack_29 : decode cX0_takeBack 29 = .ok (.putfield 31, 3) := dq_181 (a := 0) (b := 31) (fd_r fcX0_takeBack (by decide +kernel)) rfl
theorem dX0_takeBack_32 : decode cX0_takeBack 32 = .ok (.aload_n 0, 1) := dq_42 (fd_r fcX0_takeBack (by decide +kernel))
theorem dX0_takeBack_33 : decode cX0_takeBack 33 = .ok (.iload_n 2, 1) := dq_28 (fd_r fcX0_takeBack (by decide +kernel))
theorem dX0_takeBack_34 : decode cX0_takeBack 34 = .ok (.putfield 51, 3) := dq_181 (a := 0) (b := 51) (fd_r fcX0_takeBack (by decide +kernel)) rfl
theorem dX0_takeBack_37 : decode cX0_takeBack 37 = .ok (.aload_n 0, 1) := dq_42 (fd_r fcX0_takeBack (by decide +kernel))
theorem dX0_takeBack_38 : decode cX0_takeBack 38 = .ok (.aload_n 0, 1) := dq_42 (fd_r fcX0_takeBack (by decide +kernel))
theorem dX0_takeBack_39 : decode cX0_takeBack 39 = .ok (.getfield 35, 3) := dq_180 (a := 0) (b := 35) (fd_r fcX0_takeBack (by decide +kernel)) rfl
theorem dX0_takeBack_42 : decode cX0_takeBack 42 = .ok (.iconst 1, 1) := dq_4 (fd_r fcX0_takeBack (by decide +kernel))
theorem dX0_takeBack_43 : decode cX0_takeBack 43 = .ok (.isub, 1) := dq_100 (fd_r fcX0_takeBack (by decide +kernel))
theorem dX0_takeBack_44 : decode cX0_takeBack 44 = .ok (.iconst 0, 1) := dq_3 (fd_r fcX0_takeBack (by decide +kernel))
theorem dX0_takeBack_45 : decode cX0_takeBack 45 = .ok (.invokestatic 58, 3) := dq_184 (a := 0) (b := 58) (fd_r fcX0_takeBack (by decide +kernel)) rfl
theorem dX0_takeBack_48 : decode cX0_takeBack 48 = .ok (.putfield 35, 3) := dq_181 (a := 0) (b := 35) (fd_r fcX0_takeBack (by decide +kernel)) rfl
theorem dX0_takeBack_51 : decode cX0_takeBack 51 = .ok (.return_, 1) := dq_177 (fd_r fcX0_takeBack (by decide +kernel))
theorem dX1_init_0 : decode cX1_init 0 = .ok (.aload_n 0, 1) := dq_42 (fd_r fcX1_init (by decide +kernel))
theorem dX1_init_1 : decode cX1_init 1 = .ok (.invokespecial 3, 3) := dq_183 (a := 0) (b := 3) (fd_r fcX1_init (by decide +kernel)) rfl
theorem dX1_init_4 : decode cX1_init 4 = .ok (.aload_n 0, 1) := dq_42 (fd_r fcX1_init (by decide +kernel))
theorem dX1_init_5 : decode cX1_init 5 = .ok (.iload_n 1, 1) := dq_27 (fd_r fcX1_init (by decide +kernel))
theorem dX1_init_6 : decode cX1_init 6 = .ok (.iconst 0, 1) := dq_3 (fd_r fcX1_init (by decide +kernel))
theorem dX1_init_7 : decode cX1_init 7 = .ok (.invokestatic 9, 3) := dq_184 (a := 0) (b := 9) (fd_r fcX1_init (by decide +kernel)) rfl
theorem dX1_init_10 : decode cX1_init 10 = .ok (.newarray .int, 2) := by decide +kernel
theorem dX1_init_12 : decode cX1_init 12 = .ok (.putfield 15, 3) := dq_181 (a := 0) (b := 15) (fd_r fcX1_init (by decide +kernel)) rfl
theorem dX1_init_15 : decode cX1_init 15 = .ok (.return_, 1) := dq_177 (fd_r fcX1_init (by decide +kernel))
theorem dX1_add_0 : decode cX1_add 0 = .ok (.aload_n 0, 1) := dq_42 (fd_r fcX1_add (by decide +kernel))
theorem dX1_add_1 : decode cX1_add 1 = .ok (.getfield 21, 3) := dq_180 (a := 0) (b := 21) (fd_r fcX1_add (by decide +kernel)) rfl
theorem dX1_add_4 : decode cX1_add 4 = .ok (.ifCond .lt 39, 3) := dq_155 (a := 0) (b := 39) (fd_r fcX1_add (by decide +kernel)) rfl
theorem dX1_add_7 : decode cX1_add 7 = .ok (.aload_n 0, 1) := dq_42 (fd_r fcX1_add (by decide +kernel))
theorem dX1_add_8 : decode cX1_add 8 = .ok (.getfield 21, 3) := dq_180 (a := 0) (b := 21) (fd_r fcX1_add (by decide +kernel)) rfl
theorem dX1_add_11 : decode cX1_add 11 = .ok (.aload_n 0, 1) := dq_42 (fd_r fcX1_add (by decide +kernel))
theorem dX1_add_12 : decode cX1_add 12 = .ok (.getfield 15, 3) := dq_180 (a := 0) (b := 15) (fd_r fcX1_add (by decide +kernel)) rfl
theorem dX1_add_15 : decode cX1_add 15 = .ok (.arraylength, 1) := dq_190 (fd_r fcX1_add (by decide +kernel))
theorem dX1_add_16 : decode cX1_add 16 = .ok (.if_icmp .ge 27, 3) := dq_162 (a := 0) (b := 27) (fd_r fcX1_add (by decide +kernel)) rfl
theorem dX1_add_19 : decode cX1_add 19 = .ok (.aload_n 0, 1) := dq_42 (fd_r fcX1_add (by decide +kernel))
theorem dX1_add_20 : decode cX1_add 20 = .ok (.getfield 15, 3) := dq_180 (a := 0) (b := 15) (fd_r fcX1_add (by decide +kernel)) rfl
theorem dX1_add_23 : decode cX1_add 23 = .ok (.aload_n 0, 1) := dq_42 (fd_r fcX1_add (by decide +kernel))
theorem dX1_add_24 : decode cX1_add 24 = .ok (.getfield 21, 3) := dq_180 (a := 0) (b := 21) (fd_r fcX1_add (by decide +kernel)) rfl
theorem dX1_add_27 : decode cX1_add 27 = .ok (.iload_n 1, 1) := dq_27 (fd_r fcX1_add (by decide +kernel))
theorem dX1_add_28 : decode cX1_add 28 = .ok (.sipush 255, 3) := dq_17 (a := 0) (b := 255) (fd_r fcX1_add (by decide +kernel)) rfl
theorem dX1_add_31 : decode cX1_add 31 = .ok (.iand, 1) := dq_126 (fd_r fcX1_add (by decide +kernel))
theorem dX1_add_32 : decode cX1_add 32 = .ok (.iastore, 1) := dq_79 (fd_r fcX1_add (by decide +kernel))
theorem dX1_add_33 : decode cX1_add 33 = .ok (.aload_n 0, 1) := dq_42 (fd_r fcX1_add (by decide +kernel))
theorem dX1_add_34 : decode cX1_add 34 = .ok (.dup, 1) := dq_89 (fd_r fcX1_add (by decide +kernel))
theorem dX1_add_35 : decode cX1_add 35 = .ok (.getfield 21, 3) := dq_180 (a := 0) (b := 21) (fd_r fcX1_add (by decide +kernel)) rfl
theorem dX1_add_38 : decode cX1_add 38 = .ok (.iconst 1, 1) := dq_4 (fd_r fcX1_add (by decide +kernel))
theorem dX1_add_39 : decode cX1_add 39 = .ok (.iadd, 1) := dq_96 (fd_r fcX1_add (by decide +kernel))
theorem dX1_add_40 : decode cX1_add 40 = .ok (.putfield 21, 3) := dq_181 (a := 0) (b := 21) (fd_r fcX1_add (by decide +kernel)) rfl
theorem dX1_add_43 : decode cX1_add 43 = .ok (.return_, 1) := dq_177 (fd_r fcX1_add (by decide +kernel))
theorem dX1_addFour_0 : decode cX1_addFour 0 = .ok (.aload_n 0, 1) := dq_42 (fd_r fcX1_addFour (by decide +kernel))
theorem dX1_addFour_1 : decode cX1_addFour 1 = .ok (.iload_n 1, 1) := dq_27 (fd_r fcX1_addFour (by decide +kernel))
theorem dX1_addFour_2 : decode cX1_addFour 2 = .ok (.bipush 24, 2) := dq_16 (a := 24) (fd_r fcX1_addFour (by decide +kernel)) rfl
theorem dX1_addFour_4 : decode cX1_addFour 4 = .ok (.ishr, 1) := dq_122 (fd_r fcX1_addFour (by decide +kernel))
theorem dX1_addFour_5 : decode cX1_addFour 5 = .ok (.invokevirtual 25, 3) := dq_182 (a := 0) (b := 25) (fd_r fcX1_addFour (by decide +kernel)) rfl
theorem dX1_addFour_8 : decode cX1_addFour 8 = .ok (.aload_n 0, 1) := dq_42 (fd_r fcX1_addFour (by decide +kernel))
theorem dX1_addFour_9 : decode cX1_addFour 9 = .ok (.iload_n 1, 1) := dq_27 (fd_r fcX1_addFour (by decide +kernel))
theorem dX1_addFour_10 : decode cX1_addFour 10 = .ok (.bipush 16, 2) := dq_16 (a := 16) (fd_r fcX1_addFour (by decide +kernel)) rfl
theorem dX1_addFour_12 : decode cX1_addFour 12 = .ok (.ishr, 1) := dq_122 (fd_r fcX1_addFour (by decide +kernel))
theorem dX1_addFour_13 : decode cX1_addFour 13 = .ok (.invokevirtual 25, 3) := dq_182 (a := 0) (b := 25) (fd_r fcX1_addFour (by decide +kernel)) rfl
theorem dX1_addFour_16 : decode cX1_addFour 16 = .ok (.aload_n 0, 1) := dq_42 (fd_r fcX1_addFour (by decide +kernel))
theorem dX1_addFour_17 : decode cX1_addFour 17 = .ok (.iload_n 1, 1) := dq_27 (fd_r fcX1_addFour (by decide +kernel))
theorem dX1_addFour_18 : decode cX1_addFour 18 = .ok (.bipush 8, 2) := dq_16 (a := 8) (fd_r fcX1_addFour (by decide +kernel)) rfl
theorem dX1_addFour_20 : decode cX1_addFour 20 = .ok (.ishr, 1) := dq_122 (fd_r fcX1_addFour (by decide +kernel))
theorem dX1_addFour_21 : decode cX1_addFour 21 = .ok (.invokevirtual 25, 3) := dq_182 (a := 0) (b := 25) (fd_r fcX1_addFour (by decide +kernel)) rfl
theorem dX1_addFour_24 : decode cX1_addFour 24 = .ok (.aload_n 0, 1) := dq_42 (fd_r fcX1_addFour (by decide +kernel))
theorem dX1_addFour_25 : decode cX1_addFour 25 = .ok (.iload_n 1, 1) := dq_27 (fd_r fcX1_addFour (by decide +kernel))
theorem dX1_addFour_26 : decode cX1_addFour 26 = .ok (.invokevirtual 25, 3) := dq_182 (a := 0) (b := 25) (fd_r fcX1_addFour (by decide +kernel)) rfl
theorem dX1_addFour_29 : decode cX1_addFour 29 = .ok (.return_, 1) := dq_177 (fd_r fcX1_addFour (by decide +kernel))
theorem dX1_addNumber_0 : decode cX1_addNumber 0 = .ok (.iload_n 1, 1) := dq_27 (fd_r fcX1_addNumber (by decide +kernel))
theorem dX1_addNumber_1 : decode cX1_addNumber 1 = .ok (.bipush 10, 2) := dq_16 (a := 10) (fd_r fcX1_addNumber (by decide +kernel)) rfl
theorem dX1_addNumber_3 : decode cX1_addNumber 3 = .ok (.if_icmp .lt 17, 3) := dq_161 (a := 0) (b := 17) (fd_r fcX1_addNumber (by decide +kernel)) rfl
theorem dX1_addNumber_6 : decode cX1_addNumber 6 = .ok (.aload_n 0, 1) := dq_42 (fd_r fcX1_addNumber (by decide +kernel))
theorem dX1_addNumber_7 : decode cX1_addNumber 7 = .ok (.bipush 48, 2) := dq_16 (a := 48) (fd_r fcX1_addNumber (by decide +kernel)) rfl
theorem dX1_addNumber_9 : decode cX1_addNumber 9 = .ok (.iload_n 1, 1) := dq_27 (fd_r fcX1_addNumber (by decide +kernel))
theorem dX1_addNumber_10 : decode cX1_addNumber 10 = .ok (.bipush 10, 2) := dq_16 (a := 10) (fd_r fcX1_addNumber (by decide +kernel)) rfl
theorem dX1_addNumber_12 : decode cX1_addNumber 12 = .ok (.idiv, 1) := dq_108 (fd_r fcX1_addNumber (by decide +kernel))
theorem dX1_addNumber_13 : decode cX1_addNumber 13 = .ok (.bipush 10, 2) := dq_16 (a := 10) (fd_r fcX1_addNumber (by decide +kernel)) rfl
theorem dX1_addNumber_15 : decode cX1_addNumber 15 = .ok (.irem, 1) := dq_112 (fd_r fcX1_addNumber (by decide +kernel))
theorem dX1_addNumber_16 : decode cX1_addNumber 16 = .ok (.iadd, 1) := dq_96 (fd_r fcX1_addNumber (by decide +kernel))
theorem dX1_addNumber_17 : decode cX1_addNumber 17 = .ok (.invokevirtual 25, 3) := dq_182 (a := 0) (b := 25) (fd_r fcX1_addNumber (by decide +kernel)) rfl
theorem dX1_addNumber_20 : decode cX1_addNumber 20 = .ok (.aload_n 0, 1) := dq_42 (fd_r fcX1_addNumber (by decide +kernel))
theorem dX1_addNumber_21 : decode cX1_addNumber 21 = .ok (.bipush 48, 2) := dq_16 (a := 48) (fd_r fcX1_addNumber (by decide +kernel)) rfl
theorem dX1_addNumber_23 : decode cX1_addNumber 23 = .ok (.iload_n 1, 1) := dq_27 (fd_r fcX1_addNumber (by decide +kernel))
theorem dX1_addNumber_24 : decode cX1_addNumber 24 = .ok (.bipush 10, 2) := dq_16 (a := 10) (fd_r fcX1_addNumber (by decide +kernel)) rfl
theorem dX1_addNumber_26 : decode cX1_addNumber 26 = .ok (.irem, 1) := dq_112 (fd_r fcX1_addNumber (by decide +kernel))
theorem dX1_addNumber_27 : decode cX1_addNumber 27 = .ok (.iadd, 1) := dq_96 (fd_r fcX1_addNumber (by decide +kernel))
theorem dX1_addNumber_28 : decode cX1_addNumber 28 = .ok (.invokevirtual 25, 3) := dq_182 (a := 0) (b := 25) (fd_r fcX1_addNumber (by decide +kernel)) rfl
theorem dX1_addNumber_31 : decode cX1_addNumber 31 = .ok (.return_, 1) := dq_177 (fd_r fcX1_addNumber (by decide +kernel))
theorem dX1_addName_0 : decode cX1_addName 0 = .ok (.iconst 0, 1) := dq_3 (fd_r fcX1_addName (by decide +kernel))
theorem dX1_addName_1 : decode cX1_addName 1 = .ok (.istore_n 2, 1) := dq_61 (fd_r fcX1_addName (by decide +kernel))
theorem dX1_addName_2 : decode cX1_addName 2 = .ok (.iload_n 2, 1) := dq_28 (fd_r fcX1_addName (by decide +kernel))
theorem dX1_addName_3 : decode cX1_addName 3 = .ok (.bipush 6, 2) := dq_16 (a := 6) (fd_r fcX1_addName (by decide +kernel)) rfl
theorem dX1_addName_5 : decode cX1_addName 5 = .ok (.if_icmp .ge 27, 3) := dq_162 (a := 0) (b := 27) (fd_r fcX1_addName (by decide +kernel)) rfl
theorem dX1_addName_8 : decode cX1_addName 8 = .ok (.iload_n 1, 1) := dq_27 (fd_r fcX1_addName (by decide +kernel))
theorem dX1_addName_9 : decode cX1_addName 9 = .ok (.iload_n 2, 1) := dq_28 (fd_r fcX1_addName (by decide +kernel))
theorem dX1_addName_10 : decode cX1_addName 10 = .ok (.invokestatic 29, 3) := dq_184 (a := 0) (b := 29) (fd_r fcX1_addName (by decide +kernel)) rfl
theorem dX1_addName_13 : decode cX1_addName 13 = .ok (.istore_n 3, 1) := dq_62 (fd_r fcX1_addName (by decide +kernel))
theorem dX1_addName_14 : decode cX1_addName 14 = .ok (.iload_n 3, 1) := dq_29 (fd_r fcX1_addName (by decide +kernel))
theorem dX1_addName_15 : decode cX1_addName 15 = .ok (.ifCond .le 11, 3) := dq_158 (a := 0) (b := 11) (fd_r fcX1_addName (by decide +kernel)) rfl
theorem dX1_addName_18 : decode cX1_addName 18 = .ok (.aload_n 0, 1) := dq_42 (fd_r fcX1_addName (by decide +kernel))
theorem dX1_addName_19 : decode cX1_addName 19 = .ok (.bipush 96, 2) := dq_16 (a := 96) (fd_r fcX1_addName (by decide +kernel)) rfl
theorem dX1_addName_21 : decode cX1_addName 21 = .ok (.iload_n 3, 1) := dq_29 (fd_r fcX1_addName (by decide +kernel))
theorem dX1_addName_22 : decode cX1_addName 22 = .ok (.iadd, 1) := dq_96 (fd_r fcX1_addName (by decide +kernel))
theorem dX1_addName_23 : decode cX1_addName 23 = .ok (.invokevirtual 25, 3) := dq_182 (a := 0) (b := 25) (fd_r fcX1_addName (by decide +kernel)) rfl
theorem dX1_addName_26 : decode cX1_addName 26 = .ok (.iinc 2 1, 3) := dq_132 (a := 2) (b := 1) (fd_r fcX1_addName (by decide +kernel)) rfl
theorem dX1_addName_29 : decode cX1_addName 29 = .ok (.goto (-27), 3) := dq_167 (a := 255) (b := 229) (fd_r fcX1_addName (by decide +kernel)) rfl
theorem dX1_addName_32 : decode cX1_addName 32 = .ok (.return_, 1) := dq_177 (fd_r fcX1_addName (by decide +kernel))
theorem dX1_byteAt_0 : decode cX1_byteAt 0 = .ok (.iload_n 1, 1) := dq_27 (fd_r fcX1_byteAt (by decide +kernel))
theorem dX1_byteAt_1 : decode cX1_byteAt 1 = .ok (.ifCond .lt 29, 3) := dq_155 (a := 0) (b := 29) (fd_r fcX1_byteAt (by decide +kernel)) rfl
theorem dX1_byteAt_4 : decode cX1_byteAt 4 = .ok (.iload_n 1, 1) := dq_27 (fd_r fcX1_byteAt (by decide +kernel))
theorem dX1_byteAt_5 : decode cX1_byteAt 5 = .ok (.aload_n 0, 1) := dq_42 (fd_r fcX1_byteAt (by decide +kernel))
theorem dX1_byteAt_6 : decode cX1_byteAt 6 = .ok (.getfield 21, 3) := dq_180 (a := 0) (b := 21) (fd_r fcX1_byteAt (by decide +kernel)) rfl
theorem dX1_byteAt_9 : decode cX1_byteAt 9 = .ok (.if_icmp .ge 21, 3) := dq_162 (a := 0) (b := 21) (fd_r fcX1_byteAt (by decide +kernel)) rfl
theorem dX1_byteAt_12 : decode cX1_byteAt 12 = .ok (.iload_n 1, 1) := dq_27 (fd_r fcX1_byteAt (by decide +kernel))
theorem dX1_byteAt_13 : decode cX1_byteAt 13 = .ok (.aload_n 0, 1) := dq_42 (fd_r fcX1_byteAt (by decide +kernel))
theorem dX1_byteAt_14 : decode cX1_byteAt 14 = .ok (.getfield 15, 3) := dq_180 (a := 0) (b := 15) (fd_r fcX1_byteAt (by decide +kernel)) rfl
theorem dX1_byteAt_17 : decode cX1_byteAt 17 = .ok (.arraylength, 1) := dq_190 (fd_r fcX1_byteAt (by decide +kernel))
theorem dX1_byteAt_18 : decode cX1_byteAt 18 = .ok (.if_icmp .ge 12, 3) := dq_162 (a := 0) (b := 12) (fd_r fcX1_byteAt (by decide +kernel)) rfl
theorem dX1_byteAt_21 : decode cX1_byteAt 21 = .ok (.aload_n 0, 1) := dq_42 (fd_r fcX1_byteAt (by decide +kernel))
theorem dX1_byteAt_22 : decode cX1_byteAt 22 = .ok (.getfield 15, 3) := dq_180 (a := 0) (b := 15) (fd_r fcX1_byteAt (by decide +kernel)) rfl
theorem dX1_byteAt_25 : decode cX1_byteAt 25 = .ok (.iload_n 1, 1) := dq_27 (fd_r fcX1_byteAt (by decide +kernel))
theorem dX1_byteAt_26 : decode cX1_byteAt 26 = .ok (.iaload, 1) := dq_46 (fd_r fcX1_byteAt (by decide +kernel))
theorem dX1_byteAt_27 : decode cX1_byteAt 27 = .ok (.goto 4, 3) := dq_167 (a := 0) (b := 4) (fd_r fcX1_byteAt (by decide +kernel)) rfl
theorem dX1_byteAt_30 : decode cX1_byteAt 30 = .ok (.iconst (-1), 1) := dq_2 (fd_r fcX1_byteAt (by decide +kernel))
theorem dX1_byteAt_31 : decode cX1_byteAt 31 = .ok (.ireturn, 1) := dq_172 (fd_r fcX1_byteAt (by decide +kernel))
theorem dX1_checkByte_0 : decode cX1_checkByte 0 = .ok (.sipush 199, 3) := dq_17 (a := 0) (b := 199) (fd_r fcX1_checkByte (by decide +kernel)) rfl
theorem dX1_checkByte_3 : decode cX1_checkByte 3 = .ok (.istore_n 2, 1) := dq_61 (fd_r fcX1_checkByte (by decide +kernel))
theorem dX1_checkByte_4 : decode cX1_checkByte 4 = .ok (.iconst 0, 1) := dq_3 (fd_r fcX1_checkByte (by decide +kernel))
theorem dX1_checkByte_5 : decode cX1_checkByte 5 = .ok (.istore_n 3, 1) := dq_62 (fd_r fcX1_checkByte (by decide +kernel))
theorem dX1_checkByte_6 : decode cX1_checkByte 6 = .ok (.iload_n 3, 1) := dq_29 (fd_r fcX1_checkByte (by decide +kernel))
theorem dX1_checkByte_7 : decode cX1_checkByte 7 = .ok (.iload_n 1, 1) := dq_27 (fd_r fcX1_checkByte (by decide +kernel))
theorem dX1_checkByte_8 : decode cX1_checkByte 8 = .ok (.if_icmp .ge 33, 3) := dq_162 (a := 0) (b := 33) (fd_r fcX1_checkByte (by decide +kernel)) rfl
theorem dX1_checkByte_11 : decode cX1_checkByte 11 = .ok (.iload_n 3, 1) := dq_29 (fd_r fcX1_checkByte (by decide +kernel))
theorem dX1_checkByte_12 : decode cX1_checkByte 12 = .ok (.aload_n 0, 1) := dq_42 (fd_r fcX1_checkByte (by decide +kernel))
theorem dX1_checkByte_13 : decode cX1_checkByte 13 = .ok (.getfield 15, 3) := dq_180 (a := 0) (b := 15) (fd_r fcX1_checkByte (by decide +kernel)) rfl
theorem dX1_checkByte_16 : decode cX1_checkByte 16 = .ok (.arraylength, 1) := dq_190 (fd_r fcX1_checkByte (by decide +kernel))
theorem dX1_checkByte_17 : decode cX1_checkByte 17 = .ok (.if_icmp .ge 24, 3) := dq_162 (a := 0) (b := 24) (fd_r fcX1_checkByte (by decide +kernel)) rfl
theorem dX1_checkByte_20 : decode cX1_checkByte 20 = .ok (.iconst 5, 1) := dq_8 (fd_r fcX1_checkByte (by decide +kernel))
theorem dX1_checkByte_21 : decode cX1_checkByte 21 = .ok (.iload_n 2, 1) := dq_28 (fd_r fcX1_checkByte (by decide +kernel))
theorem dX1_checkByte_22 : decode cX1_checkByte 22 = .ok (.imul, 1) := dq_104 (fd_r fcX1_checkByte (by decide +kernel))
theorem dX1_checkByte_23 : decode cX1_checkByte 23 = .ok (.aload_n 0, 1) := dq_42 (fd_r fcX1_checkByte (by decide +kernel))
theorem dX1_checkByte_24 : decode cX1_checkByte 24 = .ok (.getfield 15, 3) := dq_180 (a := 0) (b := 15) (fd_r fcX1_checkByte (by decide +kernel)) rfl
theorem dX1_checkByte_27 : decode cX1_checkByte 27 = .ok (.iload_n 3, 1) := dq_29 (fd_r fcX1_checkByte (by decide +kernel))
theorem dX1_checkByte_28 : decode cX1_checkByte 28 = .ok (.iaload, 1) := dq_46 (fd_r fcX1_checkByte (by decide +kernel))
theorem dX1_checkByte_29 : decode cX1_checkByte 29 = .ok (.iadd, 1) := dq_96 (fd_r fcX1_checkByte (by decide +kernel))
theorem dX1_checkByte_30 : decode cX1_checkByte 30 = .ok (.sipush 251, 3) := dq_17 (a := 0) (b := 251) (fd_r fcX1_checkByte (by decide +kernel)) rfl
theorem dX1_checkByte_33 : decode cX1_checkByte 33 = .ok (.irem, 1) := dq_112 (fd_r fcX1_checkByte (by decide +kernel))
theorem dX1_checkByte_34 : decode cX1_checkByte 34 = .ok (.istore_n 2, 1) := dq_61 (fd_r fcX1_checkByte (by decide +kernel))
theorem dX1_checkByte_35 : decode cX1_checkByte 35 = .ok (.iinc 3 1, 3) := dq_132 (a := 3) (b := 1) (fd_r fcX1_checkByte (by decide +kernel)) rfl
theorem dX1_checkByte_38 : decode cX1_checkByte 38 = .ok (.goto (-32), 3) := dq_167 (a := 255) (b := 224) (fd_r fcX1_checkByte (by decide +kernel)) rfl
theorem dX1_checkByte_41 : decode cX1_checkByte 41 = .ok (.iload_n 2, 1) := dq_28 (fd_r fcX1_checkByte (by decide +kernel))
theorem dX1_checkByte_42 : decode cX1_checkByte 42 = .ok (.ireturn, 1) := dq_172 (fd_r fcX1_checkByte (by decide +kernel))
theorem dX2_init_0 : decode cX2_init 0 = .ok (.aload_n 0, 1) := dq_42 (fd_r fcX2_init (by decide +kernel))
theorem dX2_init_1 : decode cX2_init 1 = .ok (.invokespecial 3, 3) := dq_183 (a := 0) (b := 3) (fd_r fcX2_init (by decide +kernel)) rfl
theorem dX2_init_4 : decode cX2_init 4 = .ok (.aload_n 0, 1) := dq_42 (fd_r fcX2_init (by decide +kernel))
theorem dX2_init_5 : decode cX2_init 5 = .ok (.iload_n 1, 1) := dq_27 (fd_r fcX2_init (by decide +kernel))
theorem dX2_init_6 : decode cX2_init 6 = .ok (.iconst 0, 1) := dq_3 (fd_r fcX2_init (by decide +kernel))
theorem dX2_init_7 : decode cX2_init 7 = .ok (.invokestatic 9, 3) := dq_184 (a := 0) (b := 9) (fd_r fcX2_init (by decide +kernel)) rfl
theorem dX2_init_10 : decode cX2_init 10 = .ok (.newarray .int, 2) := by decide +kernel
theorem dX2_init_12 : decode cX2_init 12 = .ok (.putfield 15, 3) := dq_181 (a := 0) (b := 15) (fd_r fcX2_init (by decide +kernel)) rfl
theorem dX2_init_15 : decode cX2_init 15 = .ok (.aload_n 0, 1) := dq_42 (fd_r fcX2_init (by decide +kernel))
theorem dX2_init_16 : decode cX2_init 16 = .ok (.iload_n 1, 1) := dq_27 (fd_r fcX2_init (by decide +kernel))
theorem dX2_init_17 : decode cX2_init 17 = .ok (.iconst 0, 1) := dq_3 (fd_r fcX2_init (by decide +kernel))
theorem dX2_init_18 : decode cX2_init 18 = .ok (.invokestatic 9, 3) := dq_184 (a := 0) (b := 9) (fd_r fcX2_init (by decide +kernel)) rfl
theorem dX2_init_21 : decode cX2_init 21 = .ok (.newarray .int, 2) := by decide +kernel
theorem dX2_init_23 : decode cX2_init 23 = .ok (.putfield 21, 3) := dq_181 (a := 0) (b := 21) (fd_r fcX2_init (by decide +kernel)) rfl
theorem dX2_init_26 : decode cX2_init 26 = .ok (.aload_n 0, 1) := dq_42 (fd_r fcX2_init (by decide +kernel))
theorem dX2_init_27 : decode cX2_init 27 = .ok (.aload_n 2, 1) := dq_44 (fd_r fcX2_init (by decide +kernel))
theorem dX2_init_28 : decode cX2_init 28 = .ok (.putfield 24, 3) := dq_181 (a := 0) (b := 24) (fd_r fcX2_init (by decide +kernel)) rfl
theorem dX2_init_31 : decode cX2_init 31 = .ok (.return_, 1) := dq_177 (fd_r fcX2_init (by decide +kernel))
theorem dX2_begin_0 : decode cX2_begin 0 = .ok (.aload_n 0, 1) := dq_42 (fd_r fcX2_begin (by decide +kernel))
theorem dX2_begin_1 : decode cX2_begin 1 = .ok (.iconst 0, 1) := dq_3 (fd_r fcX2_begin (by decide +kernel))
theorem dX2_begin_2 : decode cX2_begin 2 = .ok (.putfield 28, 3) := dq_181 (a := 0) (b := 28) (fd_r fcX2_begin (by decide +kernel)) rfl
theorem dX2_begin_5 : decode cX2_begin 5 = .ok (.aload_n 0, 1) := dq_42 (fd_r fcX2_begin (by decide +kernel))
theorem dX2_begin_6 : decode cX2_begin 6 = .ok (.getfield 24, 3) := dq_180 (a := 0) (b := 24) (fd_r fcX2_begin (by decide +kernel)) rfl
theorem dX2_begin_9 : decode cX2_begin 9 = .ok (.invokevirtual 32, 3) := dq_182 (a := 0) (b := 32) (fd_r fcX2_begin (by decide +kernel)) rfl
theorem dX2_begin_12 : decode cX2_begin 12 = .ok (.return_, 1) := dq_177 (fd_r fcX2_begin (by decide +kernel))
theorem dX2_add_0 : decode cX2_add 0 = .ok (.iload_n 1, 1) := dq_27 (fd_r fcX2_add (by decide +kernel))
theorem dX2_add_1 : decode cX2_add 1 = .ok (.ifCond .lt 10, 3) := dq_155 (a := 0) (b := 10) (fd_r fcX2_add (by decide +kernel)) rfl
theorem dX2_add_4 : decode cX2_add 4 = .ok (.iload_n 1, 1) := dq_27 (fd_r fcX2_add (by decide +kernel))
theorem dX2_add_5 : decode cX2_add 5 = .ok (.sipush 4096, 3) := dq_17 (a := 16) (b := 0) (fd_r fcX2_add (by decide +kernel)) rfl
theorem dX2_add_8 : decode cX2_add 8 = .ok (.if_icmp .lt 4, 3) := dq_161 (a := 0) (b := 4) (fd_r fcX2_add (by decide +kernel)) rfl
theorem dX2_add_11 : decode cX2_add 11 = .ok (.return_, 1) := dq_177 (fd_r fcX2_add (by decide +kernel))
theorem dX2_add_12 : decode cX2_add 12 = .ok (.aload_n 0, 1) := dq_42 (fd_r fcX2_add (by decide +kernel))
theorem dX2_add_13 : decode cX2_add 13 = .ok (.getfield 24, 3) := dq_180 (a := 0) (b := 24) (fd_r fcX2_add (by decide +kernel)) rfl
theorem dX2_add_16 : decode cX2_add 16 = .ok (.iload_n 1, 1) := dq_27 (fd_r fcX2_add (by decide +kernel))
theorem dX2_add_17 : decode cX2_add 17 = .ok (.invokevirtual 37, 3) := dq_182 (a := 0) (b := 37) (fd_r fcX2_add (by decide +kernel)) rfl
theorem dX2_add_20 : decode cX2_add 20 = .ok (.ifCond .eq 59, 3) := dq_153 (a := 0) (b := 59) (fd_r fcX2_add (by decide +kernel)) rfl
theorem dX2_add_23 : decode cX2_add 23 = .ok (.aload_n 0, 1) := dq_42 (fd_r fcX2_add (by decide +kernel))
theorem dX2_add_24 : decode cX2_add 24 = .ok (.getfield 28, 3) := dq_180 (a := 0) (b := 28) (fd_r fcX2_add (by decide +kernel)) rfl
theorem dX2_add_27 : decode cX2_add 27 = .ok (.aload_n 0, 1) := dq_42 (fd_r fcX2_add (by decide +kernel))
theorem dX2_add_28 : decode cX2_add 28 = .ok (.getfield 15, 3) := dq_180 (a := 0) (b := 15) (fd_r fcX2_add (by decide +kernel)) rfl
theorem dX2_add_31 : decode cX2_add 31 = .ok (.arraylength, 1) := dq_190 (fd_r fcX2_add (by decide +kernel))
theorem dX2_add_32 : decode cX2_add 32 = .ok (.if_icmp .ge 46, 3) := dq_162 (a := 0) (b := 46) (fd_r fcX2_add (by decide +kernel)) rfl
theorem dX2_add_35 : decode cX2_add 35 = .ok (.aload_n 0, 1) := dq_42 (fd_r fcX2_add (by decide +kernel))
theorem dX2_add_36 : decode cX2_add 36 = .ok (.getfield 24, 3) := dq_180 (a := 0) (b := 24) (fd_r fcX2_add (by decide +kernel)) rfl
theorem dX2_add_39 : decode cX2_add 39 = .ok (.getfield 41, 3) := dq_180 (a := 0) (b := 41) (fd_r fcX2_add (by decide +kernel)) rfl
theorem dX2_add_42 : decode cX2_add 42 = .ok (.iload_n 1, 1) := dq_27 (fd_r fcX2_add (by decide +kernel))
theorem dX2_add_43 : decode cX2_add 43 = .ok (.aload_n 0, 1) := dq_42 (fd_r fcX2_add (by decide +kernel))
theorem dX2_add_44 : decode cX2_add 44 = .ok (.getfield 28, 3) := dq_180 (a := 0) (b := 28) (fd_r fcX2_add (by decide +kernel)) rfl
theorem dX2_add_47 : decode cX2_add 47 = .ok (.iastore, 1) := dq_79 (fd_r fcX2_add (by decide +kernel))
theorem dX2_add_48 : decode cX2_add 48 = .ok (.aload_n 0, 1) := dq_42 (fd_r fcX2_add (by decide +kernel))
theorem dX2_add_49 : decode cX2_add 49 = .ok (.getfield 15, 3) := dq_180 (a := 0) (b := 15) (fd_r fcX2_add (by decide +kernel)) rfl
theorem dX2_add_52 : decode cX2_add 52 = .ok (.aload_n 0, 1) := dq_42 (fd_r fcX2_add (by decide +kernel))
theorem dX2_add_53 : decode cX2_add 53 = .ok (.getfield 28, 3) := dq_180 (a := 0) (b := 28) (fd_r fcX2_add (by decide +kernel)) rfl
theorem dX2_add_56 : decode cX2_add 56 = .ok (.iload_n 1, 1) := dq_27 (fd_r fcX2_add (by decide +kernel))
theorem dX2_add_57 : decode cX2_add 57 = .ok (.iastore, 1) := dq_79 (fd_r fcX2_add (by decide +kernel))
theorem dX2_add_58 : decode cX2_add 58 = .ok (.aload_n 0, 1) := dq_42 (fd_r fcX2_add (by decide +kernel))
theorem dX2_add_59 : decode cX2_add 59 = .ok (.getfield 21, 3) := dq_180 (a := 0) (b := 21) (fd_r fcX2_add (by decide +kernel)) rfl
theorem dX2_add_62 : decode cX2_add 62 = .ok (.aload_n 0, 1) := dq_42 (fd_r fcX2_add (by decide +kernel))
theorem dX2_add_63 : decode cX2_add 63 = .ok (.getfield 28, 3) := dq_180 (a := 0) (b := 28) (fd_r fcX2_add (by decide +kernel)) rfl
theorem dX2_add_66 : decode cX2_add 66 = .ok (.iload_n 2, 1) := dq_28 (fd_r fcX2_add (by decide +kernel))
theorem dX2_add_67 : decode cX2_add 67 = .ok (.iastore, 1) := dq_79 (fd_r fcX2_add (by decide +kernel))
theorem dX2_add_68 : decode cX2_add 68 = .ok (.aload_n 0, 1) := dq_42 (fd_r fcX2_add (by decide +kernel))
theorem dX2_add_69 : decode cX2_add 69 = .ok (.dup, 1) := dq_89 (fd_r fcX2_add (by decide +kernel))
theorem dX2_add_70 : decode cX2_add 70 = .ok (.getfield 28, 3) := dq_180 (a := 0) (b := 28) (fd_r fcX2_add (by decide +kernel)) rfl
theorem dX2_add_73 : decode cX2_add 73 = .ok (.iconst 1, 1) := dq_4 (fd_r fcX2_add (by decide +kernel))
theorem dX2_add_74 : decode cX2_add 74 = .ok (.iadd, 1) := dq_96 (fd_r fcX2_add (by decide +kernel))
theorem dX2_add_75 : decode cX2_add 75 = .ok (.putfield 28, 3) := dq_181 (a := 0) (b := 28) (fd_r fcX2_add (by decide +kernel)) rfl
theorem dX2_add_78 : decode cX2_add 78 = .ok (.return_, 1) := dq_177 (fd_r fcX2_add (by decide +kernel))
theorem dX2_add_79 : decode cX2_add 79 = .ok (.aload_n 0, 1) := dq_42 (fd_r fcX2_add (by decide +kernel))
theorem dX2_add_80 : decode cX2_add 80 = .ok (.getfield 24, 3) := dq_180 (a := 0) (b := 24) (fd_r fcX2_add (by decide +kernel)) rfl
theorem dX2_add_83 : decode cX2_add 83 = .ok (.getfield 41, 3) := dq_180 (a := 0) (b := 41) (fd_r fcX2_add (by decide +kernel)) rfl
theorem dX2_add_86 : decode cX2_add 86 = .ok (.iload_n 1, 1) := dq_27 (fd_r fcX2_add (by decide +kernel))
theorem dX2_add_87 : decode cX2_add 87 = .ok (.iaload, 1) := dq_46 (fd_r fcX2_add (by decide +kernel))
theorem dX2_add_88 : decode cX2_add 88 = .ok (.istore_n 3, 1) := dq_62 (fd_r fcX2_add (by decide +kernel))
theorem dX2_add_89 : decode cX2_add 89 = .ok (.iload_n 3, 1) := dq_29 (fd_r fcX2_add (by decide +kernel))
theorem dX2_add_90 : decode cX2_add 90 = .ok (.ifCond .lt 21, 3) := dq_155 (a := 0) (b := 21) (fd_r fcX2_add (by decide +kernel)) rfl
theorem dX2_add_93 : decode cX2_add 93 = .ok (.iload_n 3, 1) := dq_29 (fd_r fcX2_add (by decide +kernel))
theorem dX2_add_94 : decode cX2_add 94 = .ok (.aload_n 0, 1) := dq_42 (fd_r fcX2_add (by decide +kernel))
theorem dX2_add_95 : decode cX2_add 95 = .ok (.getfield 28, 3) := dq_180 (a := 0) (b := 28) (fd_r fcX2_add (by decide +kernel)) rfl
theorem dX2_add_98 : decode cX2_add 98 = .ok (.if_icmp .ge 13, 3) := dq_162 (a := 0) (b := 13) (fd_r fcX2_add (by decide +kernel)) rfl
theorem dX2_add_101 : decode cX2_add 101 = .ok (.aload_n 0, 1) := dq_42 (fd_r fcX2_add (by decide +kernel))
theorem dX2_add_102 : decode cX2_add 102 = .ok (.getfield 21, 3) := dq_180 (a := 0) (b := 21) (fd_r fcX2_add (by decide +kernel)) rfl
theorem dX2_add_105 : decode cX2_add 105 = .ok (.iload_n 3, 1) := dq_29 (fd_r fcX2_add (by decide +kernel))
theorem dX2_add_106 : decode cX2_add 106 = .ok (.dup2, 1) := dq_92 (fd_r fcX2_add (by decide +kernel))
theorem dX2_add_107 : decode cX2_add 107 = .ok (.iaload, 1) := dq_46 (fd_r fcX2_add (by decide +kernel))
theorem dX2_add_108 : decode cX2_add 108 = .ok (.iload_n 2, 1) := dq_28 (fd_r fcX2_add (by decide +kernel))
theorem dX2_add_109 : decode cX2_add 109 = .ok (.iadd, 1) := dq_96 (fd_r fcX2_add (by decide +kernel))
theorem dX2_add_110 : decode cX2_add 110 = .ok (.iastore, 1) := dq_79 (fd_r fcX2_add (by decide +kernel))
theorem dX2_add_111 : decode cX2_add 111 = .ok (.return_, 1) := dq_177 (fd_r fcX2_add (by decide +kernel))
theorem dX2_addParts_0 : decode cX2_addParts 0 = .ok (.iconst 0, 1) := dq_3 (fd_r fcX2_addParts (by decide +kernel))
theorem dX2_addParts_1 : decode cX2_addParts 1 = .ok (.istore_n 3, 1) := dq_62 (fd_r fcX2_addParts (by decide +kernel))
theorem dX2_addParts_2 : decode cX2_addParts 2 = .ok (.iload_n 3, 1) := dq_29 (fd_r fcX2_addParts (by decide +kernel))
theorem dX2_addParts_3 : decode cX2_addParts 3 = .ok (.aload_n 1, 1) := dq_43 (fd_r fcX2_addParts (by decide +kernel))
theorem dX2_addParts_4 : decode cX2_addParts 4 = .ok (.getfield 28, 3) := dq_180 (a := 0) (b := 28) (fd_r fcX2_addParts (by decide +kernel)) rfl
theorem dX2_addParts_7 : decode cX2_addParts 7 = .ok (.if_icmp .ge 27, 3) := dq_162 (a := 0) (b := 27) (fd_r fcX2_addParts (by decide +kernel)) rfl
theorem dX2_addParts_10 : decode cX2_addParts 10 = .ok (.aload_n 0, 1) := dq_42 (fd_r fcX2_addParts (by decide +kernel))
theorem dX2_addParts_11 : decode cX2_addParts 11 = .ok (.aload_n 1, 1) := dq_43 (fd_r fcX2_addParts (by decide +kernel))
theorem dX2_addParts_12 : decode cX2_addParts 12 = .ok (.getfield 15, 3) := dq_180 (a := 0) (b := 15) (fd_r fcX2_addParts (by decide +kernel)) rfl
theorem dX2_addParts_15 : decode cX2_addParts 15 = .ok (.iload_n 3, 1) := dq_29 (fd_r fcX2_addParts (by decide +kernel))
theorem dX2_addParts_16 : decode cX2_addParts 16 = .ok (.iaload, 1) := dq_46 (fd_r fcX2_addParts (by decide +kernel))
theorem dX2_addParts_17 : decode cX2_addParts 17 = .ok (.iload_n 2, 1) := dq_28 (fd_r fcX2_addParts (by decide +kernel))
theorem dX2_addParts_18 : decode cX2_addParts 18 = .ok (.iand, 1) := dq_126 (fd_r fcX2_addParts (by decide +kernel))
theorem dX2_addParts_19 : decode cX2_addParts 19 = .ok (.aload_n 1, 1) := dq_43 (fd_r fcX2_addParts (by decide +kernel))
theorem dX2_addParts_20 : decode cX2_addParts 20 = .ok (.getfield 21, 3) := dq_180 (a := 0) (b := 21) (fd_r fcX2_addParts (by decide +kernel)) rfl
theorem dX2_addParts_23 : decode cX2_addParts 23 = .ok (.iload_n 3, 1) := dq_29 (fd_r fcX2_addParts (by decide +kernel))
theorem dX2_addParts_24 : decode cX2_addParts 24 = .ok (.iaload, 1) := dq_46 (fd_r fcX2_addParts (by decide +kernel))
theorem dX2_addParts_25 : decode cX2_addParts 25 = .ok (.invokevirtual 44, 3) := dq_182 (a := 0) (b := 44) (fd_r fcX2_addParts (by decide +kernel)) rfl
theorem dX2_addParts_28 : decode cX2_addParts 28 = .ok (.iinc 3 1, 3) := dq_132 (a := 3) (b := 1) (fd_r fcX2_addParts (by decide +kernel)) rfl
theorem dX2_addParts_31 : decode cX2_addParts 31 = .ok (.goto (-29), 3) := dq_167 (a := 255) (b := 227) (fd_r fcX2_addParts (by decide +kernel)) rfl
theorem dX2_addParts_34 : decode cX2_addParts 34 = .ok (.return_, 1) := dq_177 (fd_r fcX2_addParts (by decide +kernel))
theorem dX2_addProducts_0 : decode cX2_addProducts 0 = .ok (.iconst 0, 1) := dq_3 (fd_r fcX2_addProducts (by decide +kernel))
theorem dX2_addProducts_1 : decode cX2_addProducts 1 = .ok (.istore_n 3, 1) := dq_62 (fd_r fcX2_addProducts (by decide +kernel))
theorem dX2_addProducts_2 : decode cX2_addProducts 2 = .ok (.iload_n 3, 1) := dq_29 (fd_r fcX2_addProducts (by decide +kernel))
theorem dX2_addProducts_3 : decode cX2_addProducts 3 = .ok (.aload_n 1, 1) := dq_43 (fd_r fcX2_addProducts (by decide +kernel))
theorem dX2_addProducts_4 : decode cX2_addProducts 4 = .ok (.getfield 28, 3) := dq_180 (a := 0) (b := 28) (fd_r fcX2_addProducts (by decide +kernel)) rfl
theorem dX2_addProducts_7 : decode cX2_addProducts 7 = .ok (.if_icmp .ge 59, 3) := dq_162 (a := 0) (b := 59) (fd_r fcX2_addProducts (by decide +kernel)) rfl
theorem dX2_addProducts_10 : decode cX2_addProducts 10 = .ok (.iconst 0, 1) := dq_3 (fd_r fcX2_addProducts (by decide +kernel))
theorem dX2_addProducts_11 : decode cX2_addProducts 11 = .ok (.istore 4, 2) := dq_54 (a := 4) (fd_r fcX2_addProducts (by decide +kernel))
theorem dX2_addProducts_13 : decode cX2_addProducts 13 = .ok (.iload 4, 2) := dq_21 (a := 4) (fd_r fcX2_addProducts (by decide +kernel))
end
section
theorem dX2_addProducts_15 : decode cX2_addProducts 15 = .ok (.aload_n 2, 1) := dq_44 (fd_r fcX2_addProducts (by decide +kernel))
theorem dX2_addProducts_16 : decode cX2_addProducts 16 = .ok (.getfield 28, 3) := dq_180 (a := 0) (b := 28) (fd_r fcX2_addProducts (by decide +kernel)) rfl
theorem dX2_addProducts_19 : decode cX2_addProducts 19 = .ok (.if_icmp .ge 41, 3) := dq_162 (a := 0) (b := 41) (fd_r fcX2_addProducts (by decide +kernel)) rfl
theorem dX2_addProducts_22 : decode cX2_addProducts 22 = .ok (.aload_n 0, 1) := dq_42 (fd_r fcX2_addProducts (by decide +kernel))
theorem dX2_addProducts_23 : decode cX2_addProducts 23 = .ok (.aload_n 1, 1) := dq_43 (fd_r fcX2_addProducts (by decide +kernel))
theorem dX2_addProducts_24 : decode cX2_addProducts 24 = .ok (.getfield 15, 3) := dq_180 (a := 0) (b := 15) (fd_r fcX2_addProducts (by decide +kernel)) rfl
theorem dX2_addProducts_27 : decode cX2_addProducts 27 = .ok (.iload_n 3, 1) := dq_29 (fd_r fcX2_addProducts (by decide +kernel))
theorem dX2_addProducts_28 : decode cX2_addProducts 28 = .ok (.iaload, 1) := dq_46 (fd_r fcX2_addProducts (by decide +kernel))
theorem dX2_addProducts_29 : decode cX2_addProducts 29 = .ok (.aload_n 2, 1) := dq_44 (fd_r fcX2_addProducts (by decide +kernel))
theorem dX2_addProducts_30 : decode cX2_addProducts 30 = .ok (.getfield 15, 3) := dq_180 (a := 0) (b := 15) (fd_r fcX2_addProducts (by decide +kernel)) rfl
theorem dX2_addProducts_33 : decode cX2_addProducts 33 = .ok (.iload 4, 2) := dq_21 (a := 4) (fd_r fcX2_addProducts (by decide +kernel))
theorem dX2_addProducts_35 : decode cX2_addProducts 35 = .ok (.iaload, 1) := dq_46 (fd_r fcX2_addProducts (by decide +kernel))
theorem dX2_addProducts_36 : decode cX2_addProducts 36 = .ok (.iand, 1) := dq_126 (fd_r fcX2_addProducts (by decide +kernel))
theorem dX2_addProducts_37 : decode cX2_addProducts 37 = .ok (.aload_n 1, 1) := dq_43 (fd_r fcX2_addProducts (by decide +kernel))
theorem dX2_addProducts_38 : decode cX2_addProducts 38 = .ok (.getfield 21, 3) := dq_180 (a := 0) (b := 21) (fd_r fcX2_addProducts (by decide +kernel)) rfl
theorem dX2_addProducts_41 : decode cX2_addProducts 41 = .ok (.iload_n 3, 1) := dq_29 (fd_r fcX2_addProducts (by decide +kernel))
theorem dX2_addProducts_42 : decode cX2_addProducts 42 = .ok (.iaload, 1) := dq_46 (fd_r fcX2_addProducts (by decide +kernel))
theorem dX2_addProducts_43 : decode cX2_addProducts 43 = .ok (.aload_n 2, 1) := dq_44 (fd_r fcX2_addProducts (by decide +kernel))
theorem dX2_addProducts_44 : decode cX2_addProducts 44 = .ok (.getfield 21, 3) := dq_180 (a := 0) (b := 21) (fd_r fcX2_addProducts (by decide +kernel)) rfl
theorem dX2_addProducts_47 : decode cX2_addProducts 47 = .ok (.iload 4, 2) := dq_21 (a := 4) (fd_r fcX2_addProducts (by decide +kernel))
theorem dX2_addProducts_49 : decode cX2_addProducts 49 = .ok (.iaload, 1) := dq_46 (fd_r fcX2_addProducts (by decide +kernel))
theorem dX2_addProducts_50 : decode cX2_addProducts 50 = .ok (.imul, 1) := dq_104 (fd_r fcX2_addProducts (by decide +kernel))
theorem dX2_addProducts_51 : decode cX2_addProducts 51 = .ok (.invokevirtual 44, 3) := dq_182 (a := 0) (b := 44) (fd_r fcX2_addProducts (by decide +kernel)) rfl
theorem dX2_addProducts_54 : decode cX2_addProducts 54 = .ok (.iinc 4 1, 3) := dq_132 (a := 4) (b := 1) (fd_r fcX2_addProducts (by decide +kernel)) rfl
theorem dX2_addProducts_57 : decode cX2_addProducts 57 = .ok (.goto (-44), 3) := dq_167 (a := 255) (b := 212) (fd_r fcX2_addProducts (by decide +kernel)) rfl
theorem dX2_addProducts_60 : decode cX2_addProducts 60 = .ok (.iinc 3 1, 3) := dq_132 (a := 3) (b := 1) (fd_r fcX2_addProducts (by decide +kernel)) rfl
theorem dX2_addProducts_63 : decode cX2_addProducts 63 = .ok (.goto (-61), 3) := dq_167 (a := 255) (b := 195) (fd_r fcX2_addProducts (by decide +kernel)) rfl
theorem dX2_addProducts_66 : decode cX2_addProducts 66 = .ok (.return_, 1) := dq_177 (fd_r fcX2_addProducts (by decide +kernel))
theorem dX2_copy_0 : decode cX2_copy 0 = .ok (.aload_n 0, 1) := dq_42 (fd_r fcX2_copy (by decide +kernel))
theorem dX2_copy_1 : decode cX2_copy 1 = .ok (.aload_n 1, 1) := dq_43 (fd_r fcX2_copy (by decide +kernel))
theorem dX2_copy_2 : decode cX2_copy 2 = .ok (.getfield 28, 3) := dq_180 (a := 0) (b := 28) (fd_r fcX2_copy (by decide +kernel)) rfl
theorem dX2_copy_5 : decode cX2_copy 5 = .ok (.aload_n 0, 1) := dq_42 (fd_r fcX2_copy (by decide +kernel))
theorem dX2_copy_6 : decode cX2_copy 6 = .ok (.getfield 15, 3) := dq_180 (a := 0) (b := 15) (fd_r fcX2_copy (by decide +kernel)) rfl
theorem dX2_copy_9 : decode cX2_copy 9 = .ok (.arraylength, 1) := dq_190 (fd_r fcX2_copy (by decide +kernel))
theorem dX2_copy_10 : decode cX2_copy 10 = .ok (.invokestatic 48, 3) := dq_184 (a := 0) (b := 48) (fd_r fcX2_copy (by decide +kernel)) rfl
theorem dX2_copy_13 : decode cX2_copy 13 = .ok (.putfield 28, 3) := dq_181 (a := 0) (b := 28) (fd_r fcX2_copy (by decide +kernel)) rfl
theorem dX2_copy_16 : decode cX2_copy 16 = .ok (.iconst 0, 1) := dq_3 (fd_r fcX2_copy (by decide +kernel))
theorem dX2_copy_17 : decode cX2_copy 17 = .ok (.istore_n 2, 1) := dq_61 (fd_r fcX2_copy (by decide +kernel))
theorem dX2_copy_18 : decode cX2_copy 18 = .ok (.iload_n 2, 1) := dq_28 (fd_r fcX2_copy (by decide +kernel))
theorem dX2_copy_19 : decode cX2_copy 19 = .ok (.aload_n 0, 1) := dq_42 (fd_r fcX2_copy (by decide +kernel))
theorem dX2_copy_20 : decode cX2_copy 20 = .ok (.getfield 28, 3) := dq_180 (a := 0) (b := 28) (fd_r fcX2_copy (by decide +kernel)) rfl
theorem dX2_copy_23 : decode cX2_copy 23 = .ok (.if_icmp .ge 33, 3) := dq_162 (a := 0) (b := 33) (fd_r fcX2_copy (by decide +kernel)) rfl
theorem dX2_copy_26 : decode cX2_copy 26 = .ok (.aload_n 0, 1) := dq_42 (fd_r fcX2_copy (by decide +kernel))
theorem dX2_copy_27 : decode cX2_copy 27 = .ok (.getfield 15, 3) := dq_180 (a := 0) (b := 15) (fd_r fcX2_copy (by decide +kernel)) rfl
theorem dX2_copy_30 : decode cX2_copy 30 = .ok (.iload_n 2, 1) := dq_28 (fd_r fcX2_copy (by decide +kernel))
theorem dX2_copy_31 : decode cX2_copy 31 = .ok (.aload_n 1, 1) := dq_43 (fd_r fcX2_copy (by decide +kernel))
theorem dX2_copy_32 : decode cX2_copy 32 = .ok (.getfield 15, 3) := dq_180 (a := 0) (b := 15) (fd_r fcX2_copy (by decide +kernel)) rfl
theorem dX2_copy_35 : decode cX2_copy 35 = .ok (.iload_n 2, 1) := dq_28 (fd_r fcX2_copy (by decide +kernel))
theorem dX2_copy_36 : decode cX2_copy 36 = .ok (.iaload, 1) := dq_46 (fd_r fcX2_copy (by decide +kernel))
theorem dX2_copy_37 : decode cX2_copy 37 = .ok (.iastore, 1) := dq_79 (fd_r fcX2_copy (by decide +kernel))
theorem dX2_copy_38 : decode cX2_copy 38 = .ok (.aload_n 0, 1) := dq_42 (fd_r fcX2_copy (by decide +kernel))
theorem dX2_copy_39 : decode cX2_copy 39 = .ok (.getfield 21, 3) := dq_180 (a := 0) (b := 21) (fd_r fcX2_copy (by decide +kernel)) rfl
theorem dX2_copy_42 : decode cX2_copy 42 = .ok (.iload_n 2, 1) := dq_28 (fd_r fcX2_copy (by decide +kernel))
theorem dX2_copy_43 : decode cX2_copy 43 = .ok (.aload_n 1, 1) := dq_43 (fd_r fcX2_copy (by decide +kernel))
theorem dX2_copy_44 : decode cX2_copy 44 = .ok (.getfield 21, 3) := dq_180 (a := 0) (b := 21) (fd_r fcX2_copy (by decide +kernel)) rfl
theorem dX2_copy_47 : decode cX2_copy 47 = .ok (.iload_n 2, 1) := dq_28 (fd_r fcX2_copy (by decide +kernel))
theorem dX2_copy_48 : decode cX2_copy 48 = .ok (.iaload, 1) := dq_46 (fd_r fcX2_copy (by decide +kernel))
theorem dX2_copy_49 : decode cX2_copy 49 = .ok (.iastore, 1) := dq_79 (fd_r fcX2_copy (by decide +kernel))
theorem dX2_copy_50 : decode cX2_copy 50 = .ok (.iinc 2 1, 3) := dq_132 (a := 2) (b := 1) (fd_r fcX2_copy (by decide +kernel)) rfl
theorem dX2_copy_53 : decode cX2_copy 53 = .ok (.goto (-35), 3) := dq_167 (a := 255) (b := 221) (fd_r fcX2_copy (by decide +kernel)) rfl
theorem dX2_copy_56 : decode cX2_copy 56 = .ok (.return_, 1) := dq_177 (fd_r fcX2_copy (by decide +kernel))
theorem dX3_init_0 : decode cX3_init 0 = .ok (.aload_n 0, 1) := dq_42 (fd_r fcX3_init (by decide +kernel))
theorem dX3_init_1 : decode cX3_init 1 = .ok (.invokespecial 3, 3) := dq_183 (a := 0) (b := 3) (fd_r fcX3_init (by decide +kernel)) rfl
theorem dX3_init_4 : decode cX3_init 4 = .ok (.aload_n 0, 1) := dq_42 (fd_r fcX3_init (by decide +kernel))
theorem dX3_init_5 : decode cX3_init 5 = .ok (.iconst 4, 1) := dq_7 (fd_r fcX3_init (by decide +kernel))
theorem dX3_init_6 : decode cX3_init 6 = .ok (.newarray .int, 2) := by decide +kernel
theorem dX3_init_8 : decode cX3_init 8 = .ok (.putfield 9, 3) := dq_181 (a := 0) (b := 9) (fd_r fcX3_init (by decide +kernel)) rfl
theorem dX3_init_11 : decode cX3_init 11 = .ok (.aload_n 0, 1) := dq_42 (fd_r fcX3_init (by decide +kernel))
theorem dX3_init_12 : decode cX3_init 12 = .ok (.iconst 4, 1) := dq_7 (fd_r fcX3_init (by decide +kernel))
theorem dX3_init_13 : decode cX3_init 13 = .ok (.newarray .int, 2) := by decide +kernel
theorem dX3_init_15 : decode cX3_init 15 = .ok (.putfield 15, 3) := dq_181 (a := 0) (b := 15) (fd_r fcX3_init (by decide +kernel)) rfl
theorem dX3_init_18 : decode cX3_init 18 = .ok (.aload_n 0, 1) := dq_42 (fd_r fcX3_init (by decide +kernel))
theorem dX3_init_19 : decode cX3_init 19 = .ok (.iconst 4, 1) := dq_7 (fd_r fcX3_init (by decide +kernel))
theorem dX3_init_20 : decode cX3_init 20 = .ok (.newarray .int, 2) := by decide +kernel
theorem dX3_init_22 : decode cX3_init 22 = .ok (.putfield 18, 3) := dq_181 (a := 0) (b := 18) (fd_r fcX3_init (by decide +kernel)) rfl
theorem dX3_init_25 : decode cX3_init 25 = .ok (.aload_n 0, 1) := dq_42 (fd_r fcX3_init (by decide +kernel))
theorem dX3_init_26 : decode cX3_init 26 = .ok (.iconst 4, 1) := dq_7 (fd_r fcX3_init (by decide +kernel))
theorem dX3_init_27 : decode cX3_init 27 = .ok (.newarray .int, 2) := by decide +kernel
theorem dX3_init_29 : decode cX3_init 29 = .ok (.putfield 21, 3) := dq_181 (a := 0) (b := 21) (fd_r fcX3_init (by decide +kernel)) rfl
theorem dX3_init_32 : decode cX3_init 32 = .ok (.aload_n 0, 1) := dq_42 (fd_r fcX3_init (by decide +kernel))
theorem dX3_init_33 : decode cX3_init 33 = .ok (.bipush 24, 2) := dq_16 (a := 24) (fd_r fcX3_init (by decide +kernel)) rfl
theorem dX3_init_35 : decode cX3_init 35 = .ok (.newarray .int, 2) := by decide +kernel
theorem dX3_init_37 : decode cX3_init 37 = .ok (.putfield 24, 3) := dq_181 (a := 0) (b := 24) (fd_r fcX3_init (by decide +kernel)) rfl
theorem dX3_init_40 : decode cX3_init 40 = .ok (.aload_n 0, 1) := dq_42 (fd_r fcX3_init (by decide +kernel))
theorem dX3_init_41 : decode cX3_init 41 = .ok (.bipush 24, 2) := dq_16 (a := 24) (fd_r fcX3_init (by decide +kernel)) rfl
theorem dX3_init_43 : decode cX3_init 43 = .ok (.newarray .int, 2) := by decide +kernel
theorem dX3_init_45 : decode cX3_init 45 = .ok (.putfield 27, 3) := dq_181 (a := 0) (b := 27) (fd_r fcX3_init (by decide +kernel)) rfl
theorem dX3_init_48 : decode cX3_init 48 = .ok (.aload_n 0, 1) := dq_42 (fd_r fcX3_init (by decide +kernel))
theorem dX3_init_49 : decode cX3_init 49 = .ok (.bipush 24, 2) := dq_16 (a := 24) (fd_r fcX3_init (by decide +kernel)) rfl
theorem dX3_init_51 : decode cX3_init 51 = .ok (.newarray .int, 2) := by decide +kernel
theorem dX3_init_53 : decode cX3_init 53 = .ok (.putfield 30, 3) := dq_181 (a := 0) (b := 30) (fd_r fcX3_init (by decide +kernel)) rfl
theorem dX3_init_56 : decode cX3_init 56 = .ok (.aload_n 0, 1) := dq_42 (fd_r fcX3_init (by decide +kernel))
theorem dX3_init_57 : decode cX3_init 57 = .ok (.bipush 24, 2) := dq_16 (a := 24) (fd_r fcX3_init (by decide +kernel)) rfl
theorem dX3_init_59 : decode cX3_init 59 = .ok (.newarray .int, 2) := by decide +kernel
theorem dX3_init_61 : decode cX3_init 61 = .ok (.putfield 33, 3) := dq_181 (a := 0) (b := 33) (fd_r fcX3_init (by decide +kernel)) rfl
theorem dX3_init_64 : decode cX3_init 64 = .ok (.aload_n 0, 1) := dq_42 (fd_r fcX3_init (by decide +kernel))
theorem dX3_init_65 : decode cX3_init 65 = .ok (.bipush 24, 2) := dq_16 (a := 24) (fd_r fcX3_init (by decide +kernel)) rfl
theorem dX3_init_67 : decode cX3_init 67 = .ok (.newarray .int, 2) := by decide +kernel
theorem dX3_init_69 : decode cX3_init 69 = .ok (.putfield 36, 3) := dq_181 (a := 0) (b := 36) (fd_r fcX3_init (by decide +kernel)) rfl
theorem dX3_init_72 : decode cX3_init 72 = .ok (.return_, 1) := dq_177 (fd_r fcX3_init (by decide +kernel))
theorem dX3_clear_0 : decode cX3_clear 0 = .ok (.aload_n 0, 1) := dq_42 (fd_r fcX3_clear (by decide +kernel))
theorem dX3_clear_1 : decode cX3_clear 1 = .ok (.iconst 0, 1) := dq_3 (fd_r fcX3_clear (by decide +kernel))
theorem dX3_clear_2 : decode cX3_clear 2 = .ok (.putfield 39, 3) := dq_181 (a := 0) (b := 39) (fd_r fcX3_clear (by decide +kernel)) rfl
theorem dX3_clear_5 : decode cX3_clear 5 = .ok (.aload_n 0, 1) := dq_42 (fd_r fcX3_clear (by decide +kernel))
theorem dX3_clear_6 : decode cX3_clear 6 = .ok (.iconst 0, 1) := dq_3 (fd_r fcX3_clear (by decide +kernel))
theorem dX3_clear_7 : decode cX3_clear 7 = .ok (.putfield 43, 3) := dq_181 (a := 0) (b := 43) (fd_r fcX3_clear (by decide +kernel)) rfl
theorem dX3_clear_10 : decode cX3_clear 10 = .ok (.return_, 1) := dq_177 (fd_r fcX3_clear (by decide +kernel))
theorem dX3_isKind_0 : decode cX3_isKind 0 = .ok (.iload_n 1, 1) := dq_27 (fd_r fcX3_isKind (by decide +kernel))
theorem dX3_isKind_1 : decode cX3_isKind 1 = .ok (.ifCond .lt 15, 3) := dq_155 (a := 0) (b := 15) (fd_r fcX3_isKind (by decide +kernel)) rfl
theorem dX3_isKind_4 : decode cX3_isKind 4 = .ok (.iload_n 1, 1) := dq_27 (fd_r fcX3_isKind (by decide +kernel))
theorem dX3_isKind_5 : decode cX3_isKind 5 = .ok (.aload_n 0, 1) := dq_42 (fd_r fcX3_isKind (by decide +kernel))
theorem dX3_isKind_6 : decode cX3_isKind 6 = .ok (.getfield 39, 3) := dq_180 (a := 0) (b := 39) (fd_r fcX3_isKind (by decide +kernel)) rfl
theorem dX3_isKind_9 : decode cX3_isKind 9 = .ok (.if_icmp .ge 7, 3) := dq_162 (a := 0) (b := 7) (fd_r fcX3_isKind (by decide +kernel)) rfl
theorem dX3_isKind_12 : decode cX3_isKind 12 = .ok (.iconst 1, 1) := dq_4 (fd_r fcX3_isKind (by decide +kernel))
theorem dX3_isKind_13 : decode cX3_isKind 13 = .ok (.goto 4, 3) := dq_167 (a := 0) (b := 4) (fd_r fcX3_isKind (by decide +kernel)) rfl
theorem dX3_isKind_16 : decode cX3_isKind 16 = .ok (.iconst 0, 1) := dq_3 (fd_r fcX3_isKind (by decide +kernel))
theorem dX3_isKind_17 : decode cX3_isKind 17 = .ok (.ireturn, 1) := dq_172 (fd_r fcX3_isKind (by decide +kernel))
theorem dX3_isCon_0 : decode cX3_isCon 0 = .ok (.iload_n 1, 1) := dq_27 (fd_r fcX3_isCon (by decide +kernel))
theorem dX3_isCon_1 : decode cX3_isCon 1 = .ok (.ifCond .lt 15, 3) := dq_155 (a := 0) (b := 15) (fd_r fcX3_isCon (by decide +kernel)) rfl
theorem dX3_isCon_4 : decode cX3_isCon 4 = .ok (.iload_n 1, 1) := dq_27 (fd_r fcX3_isCon (by decide +kernel))
theorem dX3_isCon_5 : decode cX3_isCon 5 = .ok (.aload_n 0, 1) := dq_42 (fd_r fcX3_isCon (by decide +kernel))
theorem dX3_isCon_6 : decode cX3_isCon 6 = .ok (.getfield 43, 3) := dq_180 (a := 0) (b := 43) (fd_r fcX3_isCon (by decide +kernel)) rfl
theorem dX3_isCon_9 : decode cX3_isCon 9 = .ok (.if_icmp .ge 7, 3) := dq_162 (a := 0) (b := 7) (fd_r fcX3_isCon (by decide +kernel)) rfl
theorem dX3_isCon_12 : decode cX3_isCon 12 = .ok (.iconst 1, 1) := dq_4 (fd_r fcX3_isCon (by decide +kernel))
theorem dX3_isCon_13 : decode cX3_isCon 13 = .ok (.goto 4, 3) := dq_167 (a := 0) (b := 4) (fd_r fcX3_isCon (by decide +kernel)) rfl
theorem dX3_isCon_16 : decode cX3_isCon 16 = .ok (.iconst 0, 1) := dq_3 (fd_r fcX3_isCon (by decide +kernel))
theorem dX3_isCon_17 : decode cX3_isCon 17 = .ok (.ireturn, 1) := dq_172 (fd_r fcX3_isCon (by decide +kernel))
theorem dX3_sizeOf_0 : decode cX3_sizeOf 0 = .ok (.iload_n 1, 1) := dq_27 (fd_r fcX3_sizeOf (by decide +kernel))
theorem dX3_sizeOf_1 : decode cX3_sizeOf 1 = .ok (.iconst (-1), 1) := dq_2 (fd_r fcX3_sizeOf (by decide +kernel))
theorem dX3_sizeOf_2 : decode cX3_sizeOf 2 = .ok (.if_icmp .ne 6, 3) := dq_160 (a := 0) (b := 6) (fd_r fcX3_sizeOf (by decide +kernel)) rfl
theorem dX3_sizeOf_5 : decode cX3_sizeOf 5 = .ok (.bipush 20, 2) := dq_16 (a := 20) (fd_r fcX3_sizeOf (by decide +kernel)) rfl
theorem dX3_sizeOf_7 : decode cX3_sizeOf 7 = .ok (.ireturn, 1) := dq_172 (fd_r fcX3_sizeOf (by decide +kernel))
theorem dX3_sizeOf_8 : decode cX3_sizeOf 8 = .ok (.iload_n 1, 1) := dq_27 (fd_r fcX3_sizeOf (by decide +kernel))
theorem dX3_sizeOf_9 : decode cX3_sizeOf 9 = .ok (.ifCond .lt 20, 3) := dq_155 (a := 0) (b := 20) (fd_r fcX3_sizeOf (by decide +kernel)) rfl
theorem dX3_sizeOf_12 : decode cX3_sizeOf 12 = .ok (.iload_n 1, 1) := dq_27 (fd_r fcX3_sizeOf (by decide +kernel))
theorem dX3_sizeOf_13 : decode cX3_sizeOf 13 = .ok (.aload_n 0, 1) := dq_42 (fd_r fcX3_sizeOf (by decide +kernel))
theorem dX3_sizeOf_14 : decode cX3_sizeOf 14 = .ok (.getfield 39, 3) := dq_180 (a := 0) (b := 39) (fd_r fcX3_sizeOf (by decide +kernel)) rfl
theorem dX3_sizeOf_17 : decode cX3_sizeOf 17 = .ok (.if_icmp .ge 12, 3) := dq_162 (a := 0) (b := 12) (fd_r fcX3_sizeOf (by decide +kernel)) rfl
theorem dX3_sizeOf_20 : decode cX3_sizeOf 20 = .ok (.aload_n 0, 1) := dq_42 (fd_r fcX3_sizeOf (by decide +kernel))
theorem dX3_sizeOf_21 : decode cX3_sizeOf 21 = .ok (.getfield 21, 3) := dq_180 (a := 0) (b := 21) (fd_r fcX3_sizeOf (by decide +kernel)) rfl
theorem dX3_sizeOf_24 : decode cX3_sizeOf 24 = .ok (.iload_n 1, 1) := dq_27 (fd_r fcX3_sizeOf (by decide +kernel))
theorem dX3_sizeOf_25 : decode cX3_sizeOf 25 = .ok (.iaload, 1) := dq_46 (fd_r fcX3_sizeOf (by decide +kernel))
theorem dX3_sizeOf_26 : decode cX3_sizeOf 26 = .ok (.goto 4, 3) := dq_167 (a := 0) (b := 4) (fd_r fcX3_sizeOf (by decide +kernel)) rfl
theorem dX3_sizeOf_29 : decode cX3_sizeOf 29 = .ok (.iconst 0, 1) := dq_3 (fd_r fcX3_sizeOf (by decide +kernel))
theorem dX3_sizeOf_30 : decode cX3_sizeOf 30 = .ok (.ireturn, 1) := dq_172 (fd_r fcX3_sizeOf (by decide +kernel))
theorem dX3_consOf_0 : decode cX3_consOf 0 = .ok (.aload_n 0, 1) := dq_42 (fd_r fcX3_consOf (by decide +kernel))
theorem dX3_consOf_1 : decode cX3_consOf 1 = .ok (.iload_n 1, 1) := dq_27 (fd_r fcX3_consOf (by decide +kernel))
theorem dX3_consOf_2 : decode cX3_consOf 2 = .ok (.invokevirtual 46, 3) := dq_182 (a := 0) (b := 46) (fd_r fcX3_consOf (by decide +kernel)) rfl
theorem dX3_consOf_5 : decode cX3_consOf 5 = .ok (.ifCond .eq 12, 3) := dq_153 (a := 0) (b := 12) (fd_r fcX3_consOf (by decide +kernel)) rfl
theorem dX3_consOf_8 : decode cX3_consOf 8 = .ok (.aload_n 0, 1) := dq_42 (fd_r fcX3_consOf (by decide +kernel))
theorem dX3_consOf_9 : decode cX3_consOf 9 = .ok (.getfield 18, 3) := dq_180 (a := 0) (b := 18) (fd_r fcX3_consOf (by decide +kernel)) rfl
theorem dX3_consOf_12 : decode cX3_consOf 12 = .ok (.iload_n 1, 1) := dq_27 (fd_r fcX3_consOf (by decide +kernel))
theorem dX3_consOf_13 : decode cX3_consOf 13 = .ok (.iaload, 1) := dq_46 (fd_r fcX3_consOf (by decide +kernel))
theorem dX3_consOf_14 : decode cX3_consOf 14 = .ok (.goto 4, 3) := dq_167 (a := 0) (b := 4) (fd_r fcX3_consOf (by decide +kernel)) rfl
theorem dX3_consOf_17 : decode cX3_consOf 17 = .ok (.iconst 0, 1) := dq_3 (fd_r fcX3_consOf (by decide +kernel))
theorem dX3_consOf_18 : decode cX3_consOf 18 = .ok (.ireturn, 1) := dq_172 (fd_r fcX3_consOf (by decide +kernel))
theorem dX3_kindNamed_0 : decode cX3_kindNamed 0 = .ok (.iconst 0, 1) := dq_3 (fd_r fcX3_kindNamed (by decide +kernel))
theorem dX3_kindNamed_1 : decode cX3_kindNamed 1 = .ok (.istore_n 2, 1) := dq_61 (fd_r fcX3_kindNamed (by decide +kernel))
theorem dX3_kindNamed_2 : decode cX3_kindNamed 2 = .ok (.iload_n 2, 1) := dq_28 (fd_r fcX3_kindNamed (by decide +kernel))
theorem dX3_kindNamed_3 : decode cX3_kindNamed 3 = .ok (.aload_n 0, 1) := dq_42 (fd_r fcX3_kindNamed (by decide +kernel))
theorem dX3_kindNamed_4 : decode cX3_kindNamed 4 = .ok (.getfield 39, 3) := dq_180 (a := 0) (b := 39) (fd_r fcX3_kindNamed (by decide +kernel)) rfl
theorem dX3_kindNamed_7 : decode cX3_kindNamed 7 = .ok (.if_icmp .ge 21, 3) := dq_162 (a := 0) (b := 21) (fd_r fcX3_kindNamed (by decide +kernel)) rfl
theorem dX3_kindNamed_10 : decode cX3_kindNamed 10 = .ok (.aload_n 0, 1) := dq_42 (fd_r fcX3_kindNamed (by decide +kernel))
theorem dX3_kindNamed_11 : decode cX3_kindNamed 11 = .ok (.getfield 9, 3) := dq_180 (a := 0) (b := 9) (fd_r fcX3_kindNamed (by decide +kernel)) rfl
theorem dX3_kindNamed_14 : decode cX3_kindNamed 14 = .ok (.iload_n 2, 1) := dq_28 (fd_r fcX3_kindNamed (by decide +kernel))
theorem dX3_kindNamed_15 : decode cX3_kindNamed 15 = .ok (.iaload, 1) := dq_46 (fd_r fcX3_kindNamed (by decide +kernel))
theorem dX3_kindNamed_16 : decode cX3_kindNamed 16 = .ok (.iload_n 1, 1) := dq_27 (fd_r fcX3_kindNamed (by decide +kernel))
theorem dX3_kindNamed_17 : decode cX3_kindNamed 17 = .ok (.if_icmp .ne 5, 3) := dq_160 (a := 0) (b := 5) (fd_r fcX3_kindNamed (by decide +kernel)) rfl
theorem dX3_kindNamed_20 : decode cX3_kindNamed 20 = .ok (.iload_n 2, 1) := dq_28 (fd_r fcX3_kindNamed (by decide +kernel))
theorem dX3_kindNamed_21 : decode cX3_kindNamed 21 = .ok (.ireturn, 1) := dq_172 (fd_r fcX3_kindNamed (by decide +kernel))
theorem dX3_kindNamed_22 : decode cX3_kindNamed 22 = .ok (.iinc 2 1, 3) := dq_132 (a := 2) (b := 1) (fd_r fcX3_kindNamed (by decide +kernel)) rfl
theorem dX3_kindNamed_25 : decode cX3_kindNamed 25 = .ok (.goto (-23), 3) := dq_167 (a := 255) (b := 233) (fd_r fcX3_kindNamed (by decide +kernel)) rfl
theorem dX3_kindNamed_28 : decode cX3_kindNamed 28 = .ok (.iconst (-1), 1) := dq_2 (fd_r fcX3_kindNamed (by decide +kernel))
theorem dX3_kindNamed_29 : decode cX3_kindNamed 29 = .ok (.ireturn, 1) := dq_172 (fd_r fcX3_kindNamed (by decide +kernel))
theorem dX3_conNamed_0 : decode cX3_conNamed 0 = .ok (.iconst 0, 1) := dq_3 (fd_r fcX3_conNamed (by decide +kernel))
theorem dX3_conNamed_1 : decode cX3_conNamed 1 = .ok (.istore_n 2, 1) := dq_61 (fd_r fcX3_conNamed (by decide +kernel))
theorem dX3_conNamed_2 : decode cX3_conNamed 2 = .ok (.iload_n 2, 1) := dq_28 (fd_r fcX3_conNamed (by decide +kernel))
theorem dX3_conNamed_3 : decode cX3_conNamed 3 = .ok (.aload_n 0, 1) := dq_42 (fd_r fcX3_conNamed (by decide +kernel))
theorem dX3_conNamed_4 : decode cX3_conNamed 4 = .ok (.getfield 43, 3) := dq_180 (a := 0) (b := 43) (fd_r fcX3_conNamed (by decide +kernel)) rfl
theorem dX3_conNamed_7 : decode cX3_conNamed 7 = .ok (.if_icmp .ge 21, 3) := dq_162 (a := 0) (b := 21) (fd_r fcX3_conNamed (by decide +kernel)) rfl
theorem dX3_conNamed_10 : decode cX3_conNamed 10 = .ok (.aload_n 0, 1) := dq_42 (fd_r fcX3_conNamed (by decide +kernel))
theorem dX3_conNamed_11 : decode cX3_conNamed 11 = .ok (.getfield 24, 3) := dq_180 (a := 0) (b := 24) (fd_r fcX3_conNamed (by decide +kernel)) rfl
theorem dX3_conNamed_14 : decode cX3_conNamed 14 = .ok (.iload_n 2, 1) := dq_28 (fd_r fcX3_conNamed (by decide +kernel))
theorem dX3_conNamed_15 : decode cX3_conNamed 15 = .ok (.iaload, 1) := dq_46 (fd_r fcX3_conNamed (by decide +kernel))
theorem dX3_conNamed_16 : decode cX3_conNamed 16 = .ok (.iload_n 1, 1) := dq_27 (fd_r fcX3_conNamed (by decide +kernel))
theorem dX3_conNamed_17 : decode cX3_conNamed 17 = .ok (.if_icmp .ne 5, 3) := dq_160 (a := 0) (b := 5) (fd_r fcX3_conNamed (by decide +kernel)) rfl
theorem dX3_conNamed_20 : decode cX3_conNamed 20 = .ok (.iload_n 2, 1) := dq_28 (fd_r fcX3_conNamed (by decide +kernel))
theorem dX3_conNamed_21 : decode cX3_conNamed 21 = .ok (.ireturn, 1) := dq_172 (fd_r fcX3_conNamed (by decide +kernel))
theorem dX3_conNamed_22 : decode cX3_conNamed 22 = .ok (.iinc 2 1, 3) := dq_132 (a := 2) (b := 1) (fd_r fcX3_conNamed (by decide +kernel)) rfl
theorem dX3_conNamed_25 : decode cX3_conNamed 25 = .ok (.goto (-23), 3) := dq_167 (a := 255) (b := 233) (fd_r fcX3_conNamed (by decide +kernel)) rfl
theorem dX3_conNamed_28 : decode cX3_conNamed 28 = .ok (.iconst (-1), 1) := dq_2 (fd_r fcX3_conNamed (by decide +kernel))
theorem dX3_conNamed_29 : decode cX3_conNamed 29 = .ok (.ireturn, 1) := dq_172 (fd_r fcX3_conNamed (by decide +kernel))
theorem dX3_conNamedOf_0 : decode cX3_conNamedOf 0 = .ok (.aload_n 0, 1) := dq_42 (fd_r fcX3_conNamedOf (by decide +kernel))
theorem dX3_conNamedOf_1 : decode cX3_conNamedOf 1 = .ok (.iload_n 2, 1) := dq_28 (fd_r fcX3_conNamedOf (by decide +kernel))
theorem dX3_conNamedOf_2 : decode cX3_conNamedOf 2 = .ok (.invokevirtual 50, 3) := dq_182 (a := 0) (b := 50) (fd_r fcX3_conNamedOf (by decide +kernel)) rfl
theorem dX3_conNamedOf_5 : decode cX3_conNamedOf 5 = .ok (.istore_n 3, 1) := dq_62 (fd_r fcX3_conNamedOf (by decide +kernel))
theorem dX3_conNamedOf_6 : decode cX3_conNamedOf 6 = .ok (.iload_n 3, 1) := dq_29 (fd_r fcX3_conNamedOf (by decide +kernel))
theorem dX3_conNamedOf_7 : decode cX3_conNamedOf 7 = .ok (.iconst (-1), 1) := dq_2 (fd_r fcX3_conNamedOf (by decide +kernel))
theorem dX3_conNamedOf_8 : decode cX3_conNamedOf 8 = .ok (.if_icmp .eq 11, 3) := dq_159 (a := 0) (b := 11) (fd_r fcX3_conNamedOf (by decide +kernel)) rfl
theorem dX3_conNamedOf_11 : decode cX3_conNamedOf 11 = .ok (.aload_n 0, 1) := dq_42 (fd_r fcX3_conNamedOf (by decide +kernel))
theorem dX3_conNamedOf_12 : decode cX3_conNamedOf 12 = .ok (.iload_n 1, 1) := dq_27 (fd_r fcX3_conNamedOf (by decide +kernel))
theorem dX3_conNamedOf_13 : decode cX3_conNamedOf 13 = .ok (.invokevirtual 46, 3) := dq_182 (a := 0) (b := 46) (fd_r fcX3_conNamedOf (by decide +kernel)) rfl
theorem dX3_conNamedOf_16 : decode cX3_conNamedOf 16 = .ok (.ifCond .ne 5, 3) := dq_154 (a := 0) (b := 5) (fd_r fcX3_conNamedOf (by decide +kernel)) rfl
theorem dX3_conNamedOf_19 : decode cX3_conNamedOf 19 = .ok (.iconst (-1), 1) := dq_2 (fd_r fcX3_conNamedOf (by decide +kernel))
theorem dX3_conNamedOf_20 : decode cX3_conNamedOf 20 = .ok (.ireturn, 1) := dq_172 (fd_r fcX3_conNamedOf (by decide +kernel))
theorem dX3_conNamedOf_21 : decode cX3_conNamedOf 21 = .ok (.aload_n 0, 1) := dq_42 (fd_r fcX3_conNamedOf (by decide +kernel))
theorem dX3_conNamedOf_22 : decode cX3_conNamedOf 22 = .ok (.getfield 15, 3) := dq_180 (a := 0) (b := 15) (fd_r fcX3_conNamedOf (by decide +kernel)) rfl
theorem dX3_conNamedOf_25 : decode cX3_conNamedOf 25 = .ok (.iload_n 1, 1) := dq_27 (fd_r fcX3_conNamedOf (by decide +kernel))
theorem dX3_conNamedOf_26 : decode cX3_conNamedOf 26 = .ok (.iaload, 1) := dq_46 (fd_r fcX3_conNamedOf (by decide +kernel))
theorem dX3_conNamedOf_27 : decode cX3_conNamedOf 27 = .ok (.istore 4, 2) := dq_54 (a := 4) (fd_r fcX3_conNamedOf (by decide +kernel))
theorem dX3_conNamedOf_29 : decode cX3_conNamedOf 29 = .ok (.iload_n 3, 1) := dq_29 (fd_r fcX3_conNamedOf (by decide +kernel))
theorem dX3_conNamedOf_30 : decode cX3_conNamedOf 30 = .ok (.iload 4, 2) := dq_21 (a := 4) (fd_r fcX3_conNamedOf (by decide +kernel))
theorem dX3_conNamedOf_32 : decode cX3_conNamedOf 32 = .ok (.if_icmp .lt 20, 3) := dq_161 (a := 0) (b := 20) (fd_r fcX3_conNamedOf (by decide +kernel)) rfl
theorem dX3_conNamedOf_35 : decode cX3_conNamedOf 35 = .ok (.iload_n 3, 1) := dq_29 (fd_r fcX3_conNamedOf (by decide +kernel))
theorem dX3_conNamedOf_36 : decode cX3_conNamedOf 36 = .ok (.iload 4, 2) := dq_21 (a := 4) (fd_r fcX3_conNamedOf (by decide +kernel))
theorem dX3_conNamedOf_38 : decode cX3_conNamedOf 38 = .ok (.aload_n 0, 1) := dq_42 (fd_r fcX3_conNamedOf (by decide +kernel))
theorem dX3_conNamedOf_39 : decode cX3_conNamedOf 39 = .ok (.getfield 18, 3) := dq_180 (a := 0) (b := 18) (fd_r fcX3_conNamedOf (by decide +kernel)) rfl
theorem dX3_conNamedOf_42 : decode cX3_conNamedOf 42 = .ok (.iload_n 1, 1) := dq_27 (fd_r fcX3_conNamedOf (by decide +kernel))
theorem dX3_conNamedOf_43 : decode cX3_conNamedOf 43 = .ok (.iaload, 1) := dq_46 (fd_r fcX3_conNamedOf (by decide +kernel))
theorem dX3_conNamedOf_44 : decode cX3_conNamedOf 44 = .ok (.iadd, 1) := dq_96 (fd_r fcX3_conNamedOf (by decide +kernel))
theorem dX3_conNamedOf_45 : decode cX3_conNamedOf 45 = .ok (.if_icmp .ge 7, 3) := dq_162 (a := 0) (b := 7) (fd_r fcX3_conNamedOf (by decide +kernel)) rfl
theorem dX3_conNamedOf_48 : decode cX3_conNamedOf 48 = .ok (.iload_n 3, 1) := dq_29 (fd_r fcX3_conNamedOf (by decide +kernel))
theorem dX3_conNamedOf_49 : decode cX3_conNamedOf 49 = .ok (.goto 4, 3) := dq_167 (a := 0) (b := 4) (fd_r fcX3_conNamedOf (by decide +kernel)) rfl
theorem dX3_conNamedOf_52 : decode cX3_conNamedOf 52 = .ok (.iconst (-1), 1) := dq_2 (fd_r fcX3_conNamedOf (by decide +kernel))
theorem dX3_conNamedOf_53 : decode cX3_conNamedOf 53 = .ok (.ireturn, 1) := dq_172 (fd_r fcX3_conNamedOf (by decide +kernel))
theorem dX3_conOf_0 : decode cX3_conOf 0 = .ok (.aload_n 0, 1) := dq_42 (fd_r fcX3_conOf (by decide +kernel))
theorem dX3_conOf_1 : decode cX3_conOf 1 = .ok (.iload_n 1, 1) := dq_27 (fd_r fcX3_conOf (by decide +kernel))
theorem dX3_conOf_2 : decode cX3_conOf 2 = .ok (.invokevirtual 46, 3) := dq_182 (a := 0) (b := 46) (fd_r fcX3_conOf (by decide +kernel)) rfl
theorem dX3_conOf_5 : decode cX3_conOf 5 = .ok (.ifCond .ne 5, 3) := dq_154 (a := 0) (b := 5) (fd_r fcX3_conOf (by decide +kernel)) rfl
theorem dX3_conOf_8 : decode cX3_conOf 8 = .ok (.iconst (-1), 1) := dq_2 (fd_r fcX3_conOf (by decide +kernel))
theorem dX3_conOf_9 : decode cX3_conOf 9 = .ok (.ireturn, 1) := dq_172 (fd_r fcX3_conOf (by decide +kernel))
theorem dX3_conOf_10 : decode cX3_conOf 10 = .ok (.iconst (-1), 1) := dq_2 (fd_r fcX3_conOf (by decide +kernel))
theorem dX3_conOf_11 : decode cX3_conOf 11 = .ok (.istore_n 3, 1) := dq_62 (fd_r fcX3_conOf (by decide +kernel))
theorem dX3_conOf_12 : decode cX3_conOf 12 = .ok (.iconst 0, 1) := dq_3 (fd_r fcX3_conOf (by decide +kernel))
theorem dX3_conOf_13 : decode cX3_conOf 13 = .ok (.istore 4, 2) := dq_54 (a := 4) (fd_r fcX3_conOf (by decide +kernel))
theorem dX3_conOf_15 : decode cX3_conOf 15 = .ok (.iload 4, 2) := dq_21 (a := 4) (fd_r fcX3_conOf (by decide +kernel))
theorem dX3_conOf_17 : decode cX3_conOf 17 = .ok (.aload_n 0, 1) := dq_42 (fd_r fcX3_conOf (by decide +kernel))
theorem dX3_conOf_18 : decode cX3_conOf 18 = .ok (.getfield 18, 3) := dq_180 (a := 0) (b := 18) (fd_r fcX3_conOf (by decide +kernel)) rfl
theorem dX3_conOf_21 : decode cX3_conOf 21 = .ok (.iload_n 1, 1) := dq_27 (fd_r fcX3_conOf (by decide +kernel))
theorem dX3_conOf_22 : decode cX3_conOf 22 = .ok (.iaload, 1) := dq_46 (fd_r fcX3_conOf (by decide +kernel))
theorem dX3_conOf_23 : decode cX3_conOf 23 = .ok (.if_icmp .ge 43, 3) := dq_162 (a := 0) (b := 43) (fd_r fcX3_conOf (by decide +kernel)) rfl
theorem dX3_conOf_26 : decode cX3_conOf 26 = .ok (.aload_n 0, 1) := dq_42 (fd_r fcX3_conOf (by decide +kernel))
theorem dX3_conOf_27 : decode cX3_conOf 27 = .ok (.getfield 15, 3) := dq_180 (a := 0) (b := 15) (fd_r fcX3_conOf (by decide +kernel)) rfl
theorem dX3_conOf_30 : decode cX3_conOf 30 = .ok (.iload_n 1, 1) := dq_27 (fd_r fcX3_conOf (by decide +kernel))
theorem dX3_conOf_31 : decode cX3_conOf 31 = .ok (.iaload, 1) := dq_46 (fd_r fcX3_conOf (by decide +kernel))
theorem dX3_conOf_32 : decode cX3_conOf 32 = .ok (.iload 4, 2) := dq_21 (a := 4) (fd_r fcX3_conOf (by decide +kernel))
theorem dX3_conOf_34 : decode cX3_conOf 34 = .ok (.iadd, 1) := dq_96 (fd_r fcX3_conOf (by decide +kernel))
theorem dX3_conOf_35 : decode cX3_conOf 35 = .ok (.istore 5, 2) := dq_54 (a := 5) (fd_r fcX3_conOf (by decide +kernel))
theorem dX3_conOf_37 : decode cX3_conOf 37 = .ok (.aload_n 0, 1) := dq_42 (fd_r fcX3_conOf (by decide +kernel))
theorem dX3_conOf_38 : decode cX3_conOf 38 = .ok (.iload 5, 2) := dq_21 (a := 5) (fd_r fcX3_conOf (by decide +kernel))
theorem dX3_conOf_40 : decode cX3_conOf 40 = .ok (.invokevirtual 54, 3) := dq_182 (a := 0) (b := 54) (fd_r fcX3_conOf (by decide +kernel)) rfl
theorem dX3_conOf_43 : decode cX3_conOf 43 = .ok (.ifCond .eq 17, 3) := dq_153 (a := 0) (b := 17) (fd_r fcX3_conOf (by decide +kernel)) rfl
theorem dX3_conOf_46 : decode cX3_conOf 46 = .ok (.aload_n 0, 1) := dq_42 (fd_r fcX3_conOf (by decide +kernel))
theorem dX3_conOf_47 : decode cX3_conOf 47 = .ok (.getfield 27, 3) := dq_180 (a := 0) (b := 27) (fd_r fcX3_conOf (by decide +kernel)) rfl
theorem dX3_conOf_50 : decode cX3_conOf 50 = .ok (.iload 5, 2) := dq_21 (a := 5) (fd_r fcX3_conOf (by decide +kernel))
theorem dX3_conOf_52 : decode cX3_conOf 52 = .ok (.iaload, 1) := dq_46 (fd_r fcX3_conOf (by decide +kernel))
theorem dX3_conOf_53 : decode cX3_conOf 53 = .ok (.iload_n 2, 1) := dq_28 (fd_r fcX3_conOf (by decide +kernel))
theorem dX3_conOf_54 : decode cX3_conOf 54 = .ok (.if_icmp .gt 6, 3) := dq_163 (a := 0) (b := 6) (fd_r fcX3_conOf (by decide +kernel)) rfl
theorem dX3_conOf_57 : decode cX3_conOf 57 = .ok (.iload 5, 2) := dq_21 (a := 5) (fd_r fcX3_conOf (by decide +kernel))
theorem dX3_conOf_59 : decode cX3_conOf 59 = .ok (.istore_n 3, 1) := dq_62 (fd_r fcX3_conOf (by decide +kernel))
theorem dX3_conOf_60 : decode cX3_conOf 60 = .ok (.iinc 4 1, 3) := dq_132 (a := 4) (b := 1) (fd_r fcX3_conOf (by decide +kernel)) rfl
theorem dX3_conOf_63 : decode cX3_conOf 63 = .ok (.goto (-48), 3) := dq_167 (a := 255) (b := 208) (fd_r fcX3_conOf (by decide +kernel)) rfl
theorem dX3_conOf_66 : decode cX3_conOf 66 = .ok (.iload_n 3, 1) := dq_29 (fd_r fcX3_conOf (by decide +kernel))
theorem dX3_conOf_67 : decode cX3_conOf 67 = .ok (.ireturn, 1) := dq_172 (fd_r fcX3_conOf (by decide +kernel))
theorem dX3_secondSize_0 : decode cX3_secondSize 0 = .ok (.aload_n 0, 1) := dq_42 (fd_r fcX3_secondSize (by decide +kernel))
theorem dX3_secondSize_1 : decode cX3_secondSize 1 = .ok (.iload_n 1, 1) := dq_27 (fd_r fcX3_secondSize (by decide +kernel))
theorem dX3_secondSize_2 : decode cX3_secondSize 2 = .ok (.invokevirtual 54, 3) := dq_182 (a := 0) (b := 54) (fd_r fcX3_secondSize (by decide +kernel)) rfl
theorem dX3_secondSize_5 : decode cX3_secondSize 5 = .ok (.ifCond .eq 26, 3) := dq_153 (a := 0) (b := 26) (fd_r fcX3_secondSize (by decide +kernel)) rfl
theorem dX3_secondSize_8 : decode cX3_secondSize 8 = .ok (.aload_n 0, 1) := dq_42 (fd_r fcX3_secondSize (by decide +kernel))
theorem dX3_secondSize_9 : decode cX3_secondSize 9 = .ok (.getfield 30, 3) := dq_180 (a := 0) (b := 30) (fd_r fcX3_secondSize (by decide +kernel)) rfl
theorem dX3_secondSize_12 : decode cX3_secondSize 12 = .ok (.iload_n 1, 1) := dq_27 (fd_r fcX3_secondSize (by decide +kernel))
theorem dX3_secondSize_13 : decode cX3_secondSize 13 = .ok (.iaload, 1) := dq_46 (fd_r fcX3_secondSize (by decide +kernel))
theorem dX3_secondSize_14 : decode cX3_secondSize 14 = .ok (.iconst 2, 1) := dq_5 (fd_r fcX3_secondSize (by decide +kernel))
theorem dX3_secondSize_15 : decode cX3_secondSize 15 = .ok (.if_icmp .ne 16, 3) := dq_160 (a := 0) (b := 16) (fd_r fcX3_secondSize (by decide +kernel)) rfl
theorem dX3_secondSize_18 : decode cX3_secondSize 18 = .ok (.aload_n 0, 1) := dq_42 (fd_r fcX3_secondSize (by decide +kernel))
theorem dX3_secondSize_19 : decode cX3_secondSize 19 = .ok (.aload_n 0, 1) := dq_42 (fd_r fcX3_secondSize (by decide +kernel))
theorem dX3_secondSize_20 : decode cX3_secondSize 20 = .ok (.getfield 36, 3) := dq_180 (a := 0) (b := 36) (fd_r fcX3_secondSize (by decide +kernel)) rfl
theorem dX3_secondSize_23 : decode cX3_secondSize 23 = .ok (.iload_n 1, 1) := dq_27 (fd_r fcX3_secondSize (by decide +kernel))
theorem dX3_secondSize_24 : decode cX3_secondSize 24 = .ok (.iaload, 1) := dq_46 (fd_r fcX3_secondSize (by decide +kernel))
theorem dX3_secondSize_25 : decode cX3_secondSize 25 = .ok (.invokevirtual 57, 3) := dq_182 (a := 0) (b := 57) (fd_r fcX3_secondSize (by decide +kernel)) rfl
theorem dX3_secondSize_28 : decode cX3_secondSize 28 = .ok (.goto 4, 3) := dq_167 (a := 0) (b := 4) (fd_r fcX3_secondSize (by decide +kernel)) rfl
theorem dX3_secondSize_31 : decode cX3_secondSize 31 = .ok (.iconst 1, 1) := dq_4 (fd_r fcX3_secondSize (by decide +kernel))
theorem dX3_secondSize_32 : decode cX3_secondSize 32 = .ok (.ireturn, 1) := dq_172 (fd_r fcX3_secondSize (by decide +kernel))
theorem dX3_addKind_0 : decode cX3_addKind 0 = .ok (.aload_n 0, 1) := dq_42 (fd_r fcX3_addKind (by decide +kernel))
theorem dX3_addKind_1 : decode cX3_addKind 1 = .ok (.getfield 39, 3) := dq_180 (a := 0) (b := 39) (fd_r fcX3_addKind (by decide +kernel)) rfl
theorem dX3_addKind_4 : decode cX3_addKind 4 = .ok (.iconst 4, 1) := dq_7 (fd_r fcX3_addKind (by decide +kernel))
theorem dX3_addKind_5 : decode cX3_addKind 5 = .ok (.if_icmp .ge 56, 3) := dq_162 (a := 0) (b := 56) (fd_r fcX3_addKind (by decide +kernel)) rfl
theorem dX3_addKind_8 : decode cX3_addKind 8 = .ok (.aload_n 0, 1) := dq_42 (fd_r fcX3_addKind (by decide +kernel))
theorem dX3_addKind_9 : decode cX3_addKind 9 = .ok (.getfield 9, 3) := dq_180 (a := 0) (b := 9) (fd_r fcX3_addKind (by decide +kernel)) rfl
theorem dX3_addKind_12 : decode cX3_addKind 12 = .ok (.aload_n 0, 1) := dq_42 (fd_r fcX3_addKind (by decide +kernel))
theorem dX3_addKind_13 : decode cX3_addKind 13 = .ok (.getfield 39, 3) := dq_180 (a := 0) (b := 39) (fd_r fcX3_addKind (by decide +kernel)) rfl
theorem dX3_addKind_16 : decode cX3_addKind 16 = .ok (.iload_n 1, 1) := dq_27 (fd_r fcX3_addKind (by decide +kernel))
theorem dX3_addKind_17 : decode cX3_addKind 17 = .ok (.iastore, 1) := dq_79 (fd_r fcX3_addKind (by decide +kernel))
theorem dX3_addKind_18 : decode cX3_addKind 18 = .ok (.aload_n 0, 1) := dq_42 (fd_r fcX3_addKind (by decide +kernel))
theorem dX3_addKind_19 : decode cX3_addKind 19 = .ok (.getfield 15, 3) := dq_180 (a := 0) (b := 15) (fd_r fcX3_addKind (by decide +kernel)) rfl
theorem dX3_addKind_22 : decode cX3_addKind 22 = .ok (.aload_n 0, 1) := dq_42 (fd_r fcX3_addKind (by decide +kernel))
theorem dX3_addKind_23 : decode cX3_addKind 23 = .ok (.getfield 39, 3) := dq_180 (a := 0) (b := 39) (fd_r fcX3_addKind (by decide +kernel)) rfl
theorem dX3_addKind_26 : decode cX3_addKind 26 = .ok (.aload_n 0, 1) := dq_42 (fd_r fcX3_addKind (by decide +kernel))
theorem dX3_addKind_27 : decode cX3_addKind 27 = .ok (.getfield 43, 3) := dq_180 (a := 0) (b := 43) (fd_r fcX3_addKind (by decide +kernel)) rfl
theorem dX3_addKind_30 : decode cX3_addKind 30 = .ok (.iastore, 1) := dq_79 (fd_r fcX3_addKind (by decide +kernel))
theorem dX3_addKind_31 : decode cX3_addKind 31 = .ok (.aload_n 0, 1) := dq_42 (fd_r fcX3_addKind (by decide +kernel))
theorem dX3_addKind_32 : decode cX3_addKind 32 = .ok (.getfield 18, 3) := dq_180 (a := 0) (b := 18) (fd_r fcX3_addKind (by decide +kernel)) rfl
theorem dX3_addKind_35 : decode cX3_addKind 35 = .ok (.aload_n 0, 1) := dq_42 (fd_r fcX3_addKind (by decide +kernel))
theorem dX3_addKind_36 : decode cX3_addKind 36 = .ok (.getfield 39, 3) := dq_180 (a := 0) (b := 39) (fd_r fcX3_addKind (by decide +kernel)) rfl
theorem dX3_addKind_39 : decode cX3_addKind 39 = .ok (.iconst 0, 1) := dq_3 (fd_r fcX3_addKind (by decide +kernel))
theorem dX3_addKind_40 : decode cX3_addKind 40 = .ok (.iastore, 1) := dq_79 (fd_r fcX3_addKind (by decide +kernel))
theorem dX3_addKind_41 : decode cX3_addKind 41 = .ok (.aload_n 0, 1) := dq_42 (fd_r fcX3_addKind (by decide +kernel))
theorem dX3_addKind_42 : decode cX3_addKind 42 = .ok (.getfield 21, 3) := dq_180 (a := 0) (b := 21) (fd_r fcX3_addKind (by decide +kernel)) rfl
theorem dX3_addKind_45 : decode cX3_addKind 45 = .ok (.aload_n 0, 1) := dq_42 (fd_r fcX3_addKind (by decide +kernel))
theorem dX3_addKind_46 : decode cX3_addKind 46 = .ok (.getfield 39, 3) := dq_180 (a := 0) (b := 39) (fd_r fcX3_addKind (by decide +kernel)) rfl
theorem dX3_addKind_49 : decode cX3_addKind 49 = .ok (.iconst 0, 1) := dq_3 (fd_r fcX3_addKind (by decide +kernel))
theorem dX3_addKind_50 : decode cX3_addKind 50 = .ok (.iastore, 1) := dq_79 (fd_r fcX3_addKind (by decide +kernel))
theorem dX3_addKind_51 : decode cX3_addKind 51 = .ok (.aload_n 0, 1) := dq_42 (fd_r fcX3_addKind (by decide +kernel))
theorem dX3_addKind_52 : decode cX3_addKind 52 = .ok (.dup, 1) := dq_89 (fd_r fcX3_addKind (by decide +kernel))
theorem dX3_addKind_53 : decode cX3_addKind 53 = .ok (.getfield 39, 3) := dq_180 (a := 0) (b := 39) (fd_r fcX3_addKind (by decide +kernel)) rfl
theorem dX3_addKind_56 : decode cX3_addKind 56 = .ok (.iconst 1, 1) := dq_4 (fd_r fcX3_addKind (by decide +kernel))
theorem dX3_addKind_57 : decode cX3_addKind 57 = .ok (.iadd, 1) := dq_96 (fd_r fcX3_addKind (by decide +kernel))
theorem dX3_addKind_58 : decode cX3_addKind 58 = .ok (.putfield 39, 3) := dq_181 (a := 0) (b := 39) (fd_r fcX3_addKind (by decide +kernel)) rfl
theorem dX3_addKind_61 : decode cX3_addKind 61 = .ok (.return_, 1) := dq_177 (fd_r fcX3_addKind (by decide +kernel))
theorem dX3_addCon_0 : decode cX3_addCon 0 = .ok (.aload_n 0, 1) := dq_42 (fd_r fcX3_addCon (by decide +kernel))
theorem dX3_addCon_1 : decode cX3_addCon 1 = .ok (.getfield 39, 3) := dq_180 (a := 0) (b := 39) (fd_r fcX3_addCon (by decide +kernel)) rfl
theorem dX3_addCon_4 : decode cX3_addCon 4 = .ok (.iconst 1, 1) := dq_4 (fd_r fcX3_addCon (by decide +kernel))
theorem dX3_addCon_5 : decode cX3_addCon 5 = .ok (.isub, 1) := dq_100 (fd_r fcX3_addCon (by decide +kernel))
theorem dX3_addCon_6 : decode cX3_addCon 6 = .ok (.istore 6, 2) := dq_54 (a := 6) (fd_r fcX3_addCon (by decide +kernel))
theorem dX3_addCon_8 : decode cX3_addCon 8 = .ok (.aload_n 0, 1) := dq_42 (fd_r fcX3_addCon (by decide +kernel))
theorem dX3_addCon_9 : decode cX3_addCon 9 = .ok (.iload 6, 2) := dq_21 (a := 6) (fd_r fcX3_addCon (by decide +kernel))
theorem dX3_addCon_11 : decode cX3_addCon 11 = .ok (.invokevirtual 46, 3) := dq_182 (a := 0) (b := 46) (fd_r fcX3_addCon (by decide +kernel)) rfl
theorem dX3_addCon_14 : decode cX3_addCon 14 = .ok (.ifCond .eq 117, 3) := dq_153 (a := 0) (b := 117) (fd_r fcX3_addCon (by decide +kernel)) rfl
theorem dX3_addCon_17 : decode cX3_addCon 17 = .ok (.aload_n 0, 1) := dq_42 (fd_r fcX3_addCon (by decide +kernel))
theorem dX3_addCon_18 : decode cX3_addCon 18 = .ok (.getfield 18, 3) := dq_180 (a := 0) (b := 18) (fd_r fcX3_addCon (by decide +kernel)) rfl
theorem dX3_addCon_21 : decode cX3_addCon 21 = .ok (.iload 6, 2) := dq_21 (a := 6) (fd_r fcX3_addCon (by decide +kernel))
theorem dX3_addCon_23 : decode cX3_addCon 23 = .ok (.iaload, 1) := dq_46 (fd_r fcX3_addCon (by decide +kernel))
theorem dX3_addCon_24 : decode cX3_addCon 24 = .ok (.bipush 6, 2) := dq_16 (a := 6) (fd_r fcX3_addCon (by decide +kernel)) rfl
theorem dX3_addCon_26 : decode cX3_addCon 26 = .ok (.if_icmp .ge 105, 3) := dq_162 (a := 0) (b := 105) (fd_r fcX3_addCon (by decide +kernel)) rfl
theorem dX3_addCon_29 : decode cX3_addCon 29 = .ok (.aload_n 0, 1) := dq_42 (fd_r fcX3_addCon (by decide +kernel))
theorem dX3_addCon_30 : decode cX3_addCon 30 = .ok (.getfield 43, 3) := dq_180 (a := 0) (b := 43) (fd_r fcX3_addCon (by decide +kernel)) rfl
theorem dX3_addCon_33 : decode cX3_addCon 33 = .ok (.aload_n 0, 1) := dq_42 (fd_r fcX3_addCon (by decide +kernel))
theorem dX3_addCon_34 : decode cX3_addCon 34 = .ok (.getfield 24, 3) := dq_180 (a := 0) (b := 24) (fd_r fcX3_addCon (by decide +kernel)) rfl
theorem dX3_addCon_37 : decode cX3_addCon 37 = .ok (.arraylength, 1) := dq_190 (fd_r fcX3_addCon (by decide +kernel))
theorem dX3_addCon_38 : decode cX3_addCon 38 = .ok (.if_icmp .ge 93, 3) := dq_162 (a := 0) (b := 93) (fd_r fcX3_addCon (by decide +kernel)) rfl
theorem dX3_addCon_41 : decode cX3_addCon 41 = .ok (.aload_n 0, 1) := dq_42 (fd_r fcX3_addCon (by decide +kernel))
theorem dX3_addCon_42 : decode cX3_addCon 42 = .ok (.getfield 24, 3) := dq_180 (a := 0) (b := 24) (fd_r fcX3_addCon (by decide +kernel)) rfl
theorem dX3_addCon_45 : decode cX3_addCon 45 = .ok (.aload_n 0, 1) := dq_42 (fd_r fcX3_addCon (by decide +kernel))
theorem dX3_addCon_46 : decode cX3_addCon 46 = .ok (.getfield 43, 3) := dq_180 (a := 0) (b := 43) (fd_r fcX3_addCon (by decide +kernel)) rfl
theorem dX3_addCon_49 : decode cX3_addCon 49 = .ok (.iload_n 1, 1) := dq_27 (fd_r fcX3_addCon (by decide +kernel))
theorem dX3_addCon_50 : decode cX3_addCon 50 = .ok (.iastore, 1) := dq_79 (fd_r fcX3_addCon (by decide +kernel))
theorem dX3_addCon_51 : decode cX3_addCon 51 = .ok (.aload_n 0, 1) := dq_42 (fd_r fcX3_addCon (by decide +kernel))
theorem dX3_addCon_52 : decode cX3_addCon 52 = .ok (.getfield 27, 3) := dq_180 (a := 0) (b := 27) (fd_r fcX3_addCon (by decide +kernel)) rfl
theorem dX3_addCon_55 : decode cX3_addCon 55 = .ok (.aload_n 0, 1) := dq_42 (fd_r fcX3_addCon (by decide +kernel))
theorem dX3_addCon_56 : decode cX3_addCon 56 = .ok (.getfield 43, 3) := dq_180 (a := 0) (b := 43) (fd_r fcX3_addCon (by decide +kernel)) rfl
theorem dX3_addCon_59 : decode cX3_addCon 59 = .ok (.aload_n 0, 1) := dq_42 (fd_r fcX3_addCon (by decide +kernel))
theorem dX3_addCon_60 : decode cX3_addCon 60 = .ok (.getfield 21, 3) := dq_180 (a := 0) (b := 21) (fd_r fcX3_addCon (by decide +kernel)) rfl
theorem dX3_addCon_63 : decode cX3_addCon 63 = .ok (.iload 6, 2) := dq_21 (a := 6) (fd_r fcX3_addCon (by decide +kernel))
theorem dX3_addCon_65 : decode cX3_addCon 65 = .ok (.iaload, 1) := dq_46 (fd_r fcX3_addCon (by decide +kernel))
theorem dX3_addCon_66 : decode cX3_addCon 66 = .ok (.iastore, 1) := dq_79 (fd_r fcX3_addCon (by decide +kernel))
theorem dX3_addCon_67 : decode cX3_addCon 67 = .ok (.aload_n 0, 1) := dq_42 (fd_r fcX3_addCon (by decide +kernel))
theorem dX3_addCon_68 : decode cX3_addCon 68 = .ok (.getfield 30, 3) := dq_180 (a := 0) (b := 30) (fd_r fcX3_addCon (by decide +kernel)) rfl
theorem dX3_addCon_71 : decode cX3_addCon 71 = .ok (.aload_n 0, 1) := dq_42 (fd_r fcX3_addCon (by decide +kernel))
theorem dX3_addCon_72 : decode cX3_addCon 72 = .ok (.getfield 43, 3) := dq_180 (a := 0) (b := 43) (fd_r fcX3_addCon (by decide +kernel)) rfl
theorem dX3_addCon_75 : decode cX3_addCon 75 = .ok (.iload_n 2, 1) := dq_28 (fd_r fcX3_addCon (by decide +kernel))
theorem dX3_addCon_76 : decode cX3_addCon 76 = .ok (.iastore, 1) := dq_79 (fd_r fcX3_addCon (by decide +kernel))
theorem dX3_addCon_77 : decode cX3_addCon 77 = .ok (.aload_n 0, 1) := dq_42 (fd_r fcX3_addCon (by decide +kernel))
theorem dX3_addCon_78 : decode cX3_addCon 78 = .ok (.getfield 33, 3) := dq_180 (a := 0) (b := 33) (fd_r fcX3_addCon (by decide +kernel)) rfl
theorem dX3_addCon_81 : decode cX3_addCon 81 = .ok (.aload_n 0, 1) := dq_42 (fd_r fcX3_addCon (by decide +kernel))
theorem dX3_addCon_82 : decode cX3_addCon 82 = .ok (.getfield 43, 3) := dq_180 (a := 0) (b := 43) (fd_r fcX3_addCon (by decide +kernel)) rfl
theorem dX3_addCon_85 : decode cX3_addCon 85 = .ok (.iload_n 3, 1) := dq_29 (fd_r fcX3_addCon (by decide +kernel))
theorem dX3_addCon_86 : decode cX3_addCon 86 = .ok (.iastore, 1) := dq_79 (fd_r fcX3_addCon (by decide +kernel))
theorem dX3_addCon_87 : decode cX3_addCon 87 = .ok (.aload_n 0, 1) := dq_42 (fd_r fcX3_addCon (by decide +kernel))
theorem dX3_addCon_88 : decode cX3_addCon 88 = .ok (.getfield 36, 3) := dq_180 (a := 0) (b := 36) (fd_r fcX3_addCon (by decide +kernel)) rfl
theorem dX3_addCon_91 : decode cX3_addCon 91 = .ok (.aload_n 0, 1) := dq_42 (fd_r fcX3_addCon (by decide +kernel))
theorem dX3_addCon_92 : decode cX3_addCon 92 = .ok (.getfield 43, 3) := dq_180 (a := 0) (b := 43) (fd_r fcX3_addCon (by decide +kernel)) rfl
theorem dX3_addCon_95 : decode cX3_addCon 95 = .ok (.iload 4, 2) := dq_21 (a := 4) (fd_r fcX3_addCon (by decide +kernel))
theorem dX3_addCon_97 : decode cX3_addCon 97 = .ok (.iastore, 1) := dq_79 (fd_r fcX3_addCon (by decide +kernel))
theorem dX3_addCon_98 : decode cX3_addCon 98 = .ok (.aload_n 0, 1) := dq_42 (fd_r fcX3_addCon (by decide +kernel))
theorem dX3_addCon_99 : decode cX3_addCon 99 = .ok (.dup, 1) := dq_89 (fd_r fcX3_addCon (by decide +kernel))
theorem dX3_addCon_100 : decode cX3_addCon 100 = .ok (.getfield 43, 3) := dq_180 (a := 0) (b := 43) (fd_r fcX3_addCon (by decide +kernel)) rfl
theorem dX3_addCon_103 : decode cX3_addCon 103 = .ok (.iconst 1, 1) := dq_4 (fd_r fcX3_addCon (by decide +kernel))
theorem dX3_addCon_104 : decode cX3_addCon 104 = .ok (.iadd, 1) := dq_96 (fd_r fcX3_addCon (by decide +kernel))
theorem dX3_addCon_105 : decode cX3_addCon 105 = .ok (.putfield 43, 3) := dq_181 (a := 0) (b := 43) (fd_r fcX3_addCon (by decide +kernel)) rfl
theorem dX3_addCon_108 : decode cX3_addCon 108 = .ok (.aload_n 0, 1) := dq_42 (fd_r fcX3_addCon (by decide +kernel))
theorem dX3_addCon_109 : decode cX3_addCon 109 = .ok (.getfield 18, 3) := dq_180 (a := 0) (b := 18) (fd_r fcX3_addCon (by decide +kernel)) rfl
theorem dX3_addCon_112 : decode cX3_addCon 112 = .ok (.iload 6, 2) := dq_21 (a := 6) (fd_r fcX3_addCon (by decide +kernel))
theorem dX3_addCon_114 : decode cX3_addCon 114 = .ok (.dup2, 1) := dq_92 (fd_r fcX3_addCon (by decide +kernel))
theorem dX3_addCon_115 : decode cX3_addCon 115 = .ok (.iaload, 1) := dq_46 (fd_r fcX3_addCon (by decide +kernel))
theorem dX3_addCon_116 : decode cX3_addCon 116 = .ok (.iconst 1, 1) := dq_4 (fd_r fcX3_addCon (by decide +kernel))
theorem dX3_addCon_117 : decode cX3_addCon 117 = .ok (.iadd, 1) := dq_96 (fd_r fcX3_addCon (by decide +kernel))
theorem dX3_addCon_118 : decode cX3_addCon 118 = .ok (.iastore, 1) := dq_79 (fd_r fcX3_addCon (by decide +kernel))
theorem dX3_addCon_119 : decode cX3_addCon 119 = .ok (.aload_n 0, 1) := dq_42 (fd_r fcX3_addCon (by decide +kernel))
theorem dX3_addCon_120 : decode cX3_addCon 120 = .ok (.getfield 21, 3) := dq_180 (a := 0) (b := 21) (fd_r fcX3_addCon (by decide +kernel)) rfl
theorem dX3_addCon_123 : decode cX3_addCon 123 = .ok (.iload 6, 2) := dq_21 (a := 6) (fd_r fcX3_addCon (by decide +kernel))
theorem dX3_addCon_125 : decode cX3_addCon 125 = .ok (.dup2, 1) := dq_92 (fd_r fcX3_addCon (by decide +kernel))
theorem dX3_addCon_126 : decode cX3_addCon 126 = .ok (.iaload, 1) := dq_46 (fd_r fcX3_addCon (by decide +kernel))
theorem dX3_addCon_127 : decode cX3_addCon 127 = .ok (.iload 5, 2) := dq_21 (a := 5) (fd_r fcX3_addCon (by decide +kernel))
theorem dX3_addCon_129 : decode cX3_addCon 129 = .ok (.iadd, 1) := dq_96 (fd_r fcX3_addCon (by decide +kernel))
theorem dX3_addCon_130 : decode cX3_addCon 130 = .ok (.iastore, 1) := dq_79 (fd_r fcX3_addCon (by decide +kernel))
theorem dX3_addCon_131 : decode cX3_addCon 131 = .ok (.return_, 1) := dq_177 (fd_r fcX3_addCon (by decide +kernel))
theorem dX4_init_0 : decode cX4_init 0 = .ok (.aload_n 0, 1) := dq_42 (fd_r fcX4_init (by decide +kernel))
theorem dX4_init_1 : decode cX4_init 1 = .ok (.invokespecial 3, 3) := dq_183 (a := 0) (b := 3) (fd_r fcX4_init (by decide +kernel)) rfl
theorem dX4_init_4 : decode cX4_init 4 = .ok (.aload_n 0, 1) := dq_42 (fd_r fcX4_init (by decide +kernel))
theorem dX4_init_5 : decode cX4_init 5 = .ok (.sipush 4096, 3) := dq_17 (a := 16) (b := 0) (fd_r fcX4_init (by decide +kernel)) rfl
theorem dX4_init_8 : decode cX4_init 8 = .ok (.newarray .int, 2) := by decide +kernel
theorem dX4_init_10 : decode cX4_init 10 = .ok (.putfield 9, 3) := dq_181 (a := 0) (b := 9) (fd_r fcX4_init (by decide +kernel)) rfl
theorem dX4_init_13 : decode cX4_init 13 = .ok (.aload_n 0, 1) := dq_42 (fd_r fcX4_init (by decide +kernel))
theorem dX4_init_14 : decode cX4_init 14 = .ok (.sipush 4096, 3) := dq_17 (a := 16) (b := 0) (fd_r fcX4_init (by decide +kernel)) rfl
theorem dX4_init_17 : decode cX4_init 17 = .ok (.newarray .int, 2) := by decide +kernel
theorem dX4_init_19 : decode cX4_init 19 = .ok (.putfield 15, 3) := dq_181 (a := 0) (b := 15) (fd_r fcX4_init (by decide +kernel)) rfl
theorem dX4_init_22 : decode cX4_init 22 = .ok (.return_, 1) := dq_177 (fd_r fcX4_init (by decide +kernel))
theorem dX4_renew_0 : decode cX4_renew 0 = .ok (.aload_n 0, 1) := dq_42 (fd_r fcX4_renew (by decide +kernel))
theorem dX4_renew_1 : decode cX4_renew 1 = .ok (.dup, 1) := dq_89 (fd_r fcX4_renew (by decide +kernel))
theorem dX4_renew_2 : decode cX4_renew 2 = .ok (.getfield 18, 3) := dq_180 (a := 0) (b := 18) (fd_r fcX4_renew (by decide +kernel)) rfl
theorem dX4_renew_5 : decode cX4_renew 5 = .ok (.iconst 1, 1) := dq_4 (fd_r fcX4_renew (by decide +kernel))
theorem dX4_renew_6 : decode cX4_renew 6 = .ok (.iadd, 1) := dq_96 (fd_r fcX4_renew (by decide +kernel))
theorem dX4_renew_7 : decode cX4_renew 7 = .ok (.putfield 18, 3) := dq_181 (a := 0) (b := 18) (fd_r fcX4_renew (by decide +kernel)) rfl
theorem dX4_renew_10 : decode cX4_renew 10 = .ok (.return_, 1) := dq_177 (fd_r fcX4_renew (by decide +kernel))
theorem dX4_isNew_0 : decode cX4_isNew 0 = .ok (.iload_n 1, 1) := dq_27 (fd_r fcX4_isNew (by decide +kernel))
theorem dX4_isNew_1 : decode cX4_isNew 1 = .ok (.ifCond .lt 23, 3) := dq_155 (a := 0) (b := 23) (fd_r fcX4_isNew (by decide +kernel)) rfl
theorem dX4_isNew_4 : decode cX4_isNew 4 = .ok (.iload_n 1, 1) := dq_27 (fd_r fcX4_isNew (by decide +kernel))
theorem dX4_isNew_5 : decode cX4_isNew 5 = .ok (.sipush 4096, 3) := dq_17 (a := 16) (b := 0) (fd_r fcX4_isNew (by decide +kernel)) rfl
theorem dX4_isNew_8 : decode cX4_isNew 8 = .ok (.if_icmp .ge 16, 3) := dq_162 (a := 0) (b := 16) (fd_r fcX4_isNew (by decide +kernel)) rfl
theorem dX4_isNew_11 : decode cX4_isNew 11 = .ok (.aload_n 0, 1) := dq_42 (fd_r fcX4_isNew (by decide +kernel))
theorem dX4_isNew_12 : decode cX4_isNew 12 = .ok (.getfield 9, 3) := dq_180 (a := 0) (b := 9) (fd_r fcX4_isNew (by decide +kernel)) rfl
theorem dX4_isNew_15 : decode cX4_isNew 15 = .ok (.iload_n 1, 1) := dq_27 (fd_r fcX4_isNew (by decide +kernel))
theorem dX4_isNew_16 : decode cX4_isNew 16 = .ok (.iaload, 1) := dq_46 (fd_r fcX4_isNew (by decide +kernel))
theorem dX4_isNew_17 : decode cX4_isNew 17 = .ok (.aload_n 0, 1) := dq_42 (fd_r fcX4_isNew (by decide +kernel))
theorem dX4_isNew_18 : decode cX4_isNew 18 = .ok (.getfield 18, 3) := dq_180 (a := 0) (b := 18) (fd_r fcX4_isNew (by decide +kernel)) rfl
theorem dX4_isNew_21 : decode cX4_isNew 21 = .ok (.if_icmp .ne 5, 3) := dq_160 (a := 0) (b := 5) (fd_r fcX4_isNew (by decide +kernel)) rfl
theorem dX4_isNew_24 : decode cX4_isNew 24 = .ok (.iconst 0, 1) := dq_3 (fd_r fcX4_isNew (by decide +kernel))
theorem dX4_isNew_25 : decode cX4_isNew 25 = .ok (.ireturn, 1) := dq_172 (fd_r fcX4_isNew (by decide +kernel))
theorem dX4_isNew_26 : decode cX4_isNew 26 = .ok (.aload_n 0, 1) := dq_42 (fd_r fcX4_isNew (by decide +kernel))
theorem dX4_isNew_27 : decode cX4_isNew 27 = .ok (.getfield 9, 3) := dq_180 (a := 0) (b := 9) (fd_r fcX4_isNew (by decide +kernel)) rfl
end
section
theorem dX4_isNew_30 : decode cX4_isNew 30 = .ok (.iload_n 1, 1) := dq_27 (fd_r fcX4_isNew (by decide +kernel))
theorem dX4_isNew_31 : decode cX4_isNew 31 = .ok (.aload_n 0, 1) := dq_42 (fd_r fcX4_isNew (by decide +kernel))
theorem dX4_isNew_32 : decode cX4_isNew 32 = .ok (.getfield 18, 3) := dq_180 (a := 0) (b := 18) (fd_r fcX4_isNew (by decide +kernel)) rfl
theorem dX4_isNew_35 : decode cX4_isNew 35 = .ok (.iastore, 1) := dq_79 (fd_r fcX4_isNew (by decide +kernel))
theorem dX4_isNew_36 : decode cX4_isNew 36 = .ok (.iconst 1, 1) := dq_4 (fd_r fcX4_isNew (by decide +kernel))
theorem dX4_isNew_37 : decode cX4_isNew 37 = .ok (.ireturn, 1) := dq_172 (fd_r fcX4_isNew (by decide +kernel))
theorem dX5_init_0 : decode cX5_init 0 = .ok (.aload_n 0, 1) := dq_42 (fd_r fcX5_init (by decide +kernel))
theorem dX5_init_1 : decode cX5_init 1 = .ok (.invokespecial 3, 3) := dq_183 (a := 0) (b := 3) (fd_r fcX5_init (by decide +kernel)) rfl
theorem dX5_init_4 : decode cX5_init 4 = .ok (.aload_n 0, 1) := dq_42 (fd_r fcX5_init (by decide +kernel))
theorem dX5_init_5 : decode cX5_init 5 = .ok (.bipush 12, 2) := dq_16 (a := 12) (fd_r fcX5_init (by decide +kernel)) rfl
theorem dX5_init_7 : decode cX5_init 7 = .ok (.newarray .int, 2) := by decide +kernel
theorem dX5_init_9 : decode cX5_init 9 = .ok (.putfield 9, 3) := dq_181 (a := 0) (b := 9) (fd_r fcX5_init (by decide +kernel)) rfl
theorem dX5_init_12 : decode cX5_init 12 = .ok (.return_, 1) := dq_177 (fd_r fcX5_init (by decide +kernel))
theorem dX5_begin_0 : decode cX5_begin 0 = .ok (.aload_n 0, 1) := dq_42 (fd_r fcX5_begin (by decide +kernel))
theorem dX5_begin_1 : decode cX5_begin 1 = .ok (.iconst 0, 1) := dq_3 (fd_r fcX5_begin (by decide +kernel))
theorem dX5_begin_2 : decode cX5_begin 2 = .ok (.iload_n 1, 1) := dq_27 (fd_r fcX5_begin (by decide +kernel))
theorem dX5_begin_3 : decode cX5_begin 3 = .ok (.bipush 12, 2) := dq_16 (a := 12) (fd_r fcX5_begin (by decide +kernel)) rfl
theorem dX5_begin_5 : decode cX5_begin 5 = .ok (.invokestatic 15, 3) := dq_184 (a := 0) (b := 15) (fd_r fcX5_begin (by decide +kernel)) rfl
theorem dX5_begin_8 : decode cX5_begin 8 = .ok (.invokestatic 21, 3) := dq_184 (a := 0) (b := 21) (fd_r fcX5_begin (by decide +kernel)) rfl
theorem dX5_begin_11 : decode cX5_begin 11 = .ok (.putfield 24, 3) := dq_181 (a := 0) (b := 24) (fd_r fcX5_begin (by decide +kernel)) rfl
theorem dX5_begin_14 : decode cX5_begin 14 = .ok (.iconst 0, 1) := dq_3 (fd_r fcX5_begin (by decide +kernel))
theorem dX5_begin_15 : decode cX5_begin 15 = .ok (.istore_n 3, 1) := dq_62 (fd_r fcX5_begin (by decide +kernel))
theorem dX5_begin_16 : decode cX5_begin 16 = .ok (.iload_n 3, 1) := dq_29 (fd_r fcX5_begin (by decide +kernel))
theorem dX5_begin_17 : decode cX5_begin 17 = .ok (.aload_n 0, 1) := dq_42 (fd_r fcX5_begin (by decide +kernel))
theorem dX5_begin_18 : decode cX5_begin 18 = .ok (.getfield 24, 3) := dq_180 (a := 0) (b := 24) (fd_r fcX5_begin (by decide +kernel)) rfl
theorem dX5_begin_21 : decode cX5_begin 21 = .ok (.if_icmp .ge 16, 3) := dq_162 (a := 0) (b := 16) (fd_r fcX5_begin (by decide +kernel)) rfl
theorem dX5_begin_24 : decode cX5_begin 24 = .ok (.aload_n 0, 1) := dq_42 (fd_r fcX5_begin (by decide +kernel))
theorem dX5_begin_25 : decode cX5_begin 25 = .ok (.getfield 9, 3) := dq_180 (a := 0) (b := 9) (fd_r fcX5_begin (by decide +kernel)) rfl
theorem dX5_begin_28 : decode cX5_begin 28 = .ok (.iload_n 3, 1) := dq_29 (fd_r fcX5_begin (by decide +kernel))
theorem dX5_begin_29 : decode cX5_begin 29 = .ok (.iload_n 3, 1) := dq_29 (fd_r fcX5_begin (by decide +kernel))
theorem dX5_begin_30 : decode cX5_begin 30 = .ok (.iastore, 1) := dq_79 (fd_r fcX5_begin (by decide +kernel))
theorem dX5_begin_31 : decode cX5_begin 31 = .ok (.iinc 3 1, 3) := dq_132 (a := 3) (b := 1) (fd_r fcX5_begin (by decide +kernel)) rfl
theorem dX5_begin_34 : decode cX5_begin 34 = .ok (.goto (-18), 3) := dq_167 (a := 255) (b := 238) (fd_r fcX5_begin (by decide +kernel)) rfl
theorem dX5_begin_37 : decode cX5_begin 37 = .ok (.aload_n 0, 1) := dq_42 (fd_r fcX5_begin (by decide +kernel))
theorem dX5_begin_38 : decode cX5_begin 38 = .ok (.sipush 255, 3) := dq_17 (a := 0) (b := 255) (fd_r fcX5_begin (by decide +kernel)) rfl
theorem dX5_begin_41 : decode cX5_begin 41 = .ok (.putfield 28, 3) := dq_181 (a := 0) (b := 28) (fd_r fcX5_begin (by decide +kernel)) rfl
theorem dX5_begin_44 : decode cX5_begin 44 = .ok (.aload_n 0, 1) := dq_42 (fd_r fcX5_begin (by decide +kernel))
theorem dX5_begin_45 : decode cX5_begin 45 = .ok (.iload_n 2, 1) := dq_28 (fd_r fcX5_begin (by decide +kernel))
theorem dX5_begin_46 : decode cX5_begin 46 = .ok (.putfield 31, 3) := dq_181 (a := 0) (b := 31) (fd_r fcX5_begin (by decide +kernel)) rfl
theorem dX5_begin_49 : decode cX5_begin 49 = .ok (.return_, 1) := dq_177 (fd_r fcX5_begin (by decide +kernel))
theorem dX5_copy_0 : decode cX5_copy 0 = .ok (.iconst 0, 1) := dq_3 (fd_r fcX5_copy (by decide +kernel))
theorem dX5_copy_1 : decode cX5_copy 1 = .ok (.istore_n 2, 1) := dq_61 (fd_r fcX5_copy (by decide +kernel))
theorem dX5_copy_2 : decode cX5_copy 2 = .ok (.iload_n 2, 1) := dq_28 (fd_r fcX5_copy (by decide +kernel))
theorem dX5_copy_3 : decode cX5_copy 3 = .ok (.bipush 12, 2) := dq_16 (a := 12) (fd_r fcX5_copy (by decide +kernel)) rfl
theorem dX5_copy_5 : decode cX5_copy 5 = .ok (.if_icmp .ge 21, 3) := dq_162 (a := 0) (b := 21) (fd_r fcX5_copy (by decide +kernel)) rfl
theorem dX5_copy_8 : decode cX5_copy 8 = .ok (.aload_n 0, 1) := dq_42 (fd_r fcX5_copy (by decide +kernel))
theorem dX5_copy_9 : decode cX5_copy 9 = .ok (.getfield 9, 3) := dq_180 (a := 0) (b := 9) (fd_r fcX5_copy (by decide +kernel)) rfl
theorem dX5_copy_12 : decode cX5_copy 12 = .ok (.iload_n 2, 1) := dq_28 (fd_r fcX5_copy (by decide +kernel))
theorem dX5_copy_13 : decode cX5_copy 13 = .ok (.aload_n 1, 1) := dq_43 (fd_r fcX5_copy (by decide +kernel))
theorem dX5_copy_14 : decode cX5_copy 14 = .ok (.getfield 9, 3) := dq_180 (a := 0) (b := 9) (fd_r fcX5_copy (by decide +kernel)) rfl
theorem dX5_copy_17 : decode cX5_copy 17 = .ok (.iload_n 2, 1) := dq_28 (fd_r fcX5_copy (by decide +kernel))
theorem dX5_copy_18 : decode cX5_copy 18 = .ok (.iaload, 1) := dq_46 (fd_r fcX5_copy (by decide +kernel))
theorem dX5_copy_19 : decode cX5_copy 19 = .ok (.iastore, 1) := dq_79 (fd_r fcX5_copy (by decide +kernel))
theorem dX5_copy_20 : decode cX5_copy 20 = .ok (.iinc 2 1, 3) := dq_132 (a := 2) (b := 1) (fd_r fcX5_copy (by decide +kernel)) rfl
theorem dX5_copy_23 : decode cX5_copy 23 = .ok (.goto (-21), 3) := dq_167 (a := 255) (b := 235) (fd_r fcX5_copy (by decide +kernel)) rfl
theorem dX5_copy_26 : decode cX5_copy 26 = .ok (.aload_n 0, 1) := dq_42 (fd_r fcX5_copy (by decide +kernel))
theorem dX5_copy_27 : decode cX5_copy 27 = .ok (.aload_n 1, 1) := dq_43 (fd_r fcX5_copy (by decide +kernel))
theorem dX5_copy_28 : decode cX5_copy 28 = .ok (.getfield 24, 3) := dq_180 (a := 0) (b := 24) (fd_r fcX5_copy (by decide +kernel)) rfl
theorem dX5_copy_31 : decode cX5_copy 31 = .ok (.putfield 24, 3) := dq_181 (a := 0) (b := 24) (fd_r fcX5_copy (by decide +kernel)) rfl
theorem dX5_copy_34 : decode cX5_copy 34 = .ok (.aload_n 0, 1) := dq_42 (fd_r fcX5_copy (by decide +kernel))
theorem dX5_copy_35 : decode cX5_copy 35 = .ok (.aload_n 1, 1) := dq_43 (fd_r fcX5_copy (by decide +kernel))
theorem dX5_copy_36 : decode cX5_copy 36 = .ok (.getfield 28, 3) := dq_180 (a := 0) (b := 28) (fd_r fcX5_copy (by decide +kernel)) rfl
theorem dX5_copy_39 : decode cX5_copy 39 = .ok (.putfield 28, 3) := dq_181 (a := 0) (b := 28) (fd_r fcX5_copy (by decide +kernel)) rfl
theorem dX5_copy_42 : decode cX5_copy 42 = .ok (.aload_n 0, 1) := dq_42 (fd_r fcX5_copy (by decide +kernel))
theorem dX5_copy_43 : decode cX5_copy 43 = .ok (.aload_n 1, 1) := dq_43 (fd_r fcX5_copy (by decide +kernel))
theorem dX5_copy_44 : decode cX5_copy 44 = .ok (.getfield 31, 3) := dq_180 (a := 0) (b := 31) (fd_r fcX5_copy (by decide +kernel)) rfl
theorem dX5_copy_47 : decode cX5_copy 47 = .ok (.putfield 31, 3) := dq_181 (a := 0) (b := 31) (fd_r fcX5_copy (by decide +kernel)) rfl
theorem dX5_copy_50 : decode cX5_copy 50 = .ok (.return_, 1) := dq_177 (fd_r fcX5_copy (by decide +kernel))
theorem dX5_isPlace_0 : decode cX5_isPlace 0 = .ok (.iload_n 1, 1) := dq_27 (fd_r fcX5_isPlace (by decide +kernel))
theorem dX5_isPlace_1 : decode cX5_isPlace 1 = .ok (.ifCond .lt 15, 3) := dq_155 (a := 0) (b := 15) (fd_r fcX5_isPlace (by decide +kernel)) rfl
theorem dX5_isPlace_4 : decode cX5_isPlace 4 = .ok (.iload_n 1, 1) := dq_27 (fd_r fcX5_isPlace (by decide +kernel))
theorem dX5_isPlace_5 : decode cX5_isPlace 5 = .ok (.aload_n 0, 1) := dq_42 (fd_r fcX5_isPlace (by decide +kernel))
theorem dX5_isPlace_6 : decode cX5_isPlace 6 = .ok (.getfield 24, 3) := dq_180 (a := 0) (b := 24) (fd_r fcX5_isPlace (by decide +kernel)) rfl
theorem dX5_isPlace_9 : decode cX5_isPlace 9 = .ok (.if_icmp .ge 7, 3) := dq_162 (a := 0) (b := 7) (fd_r fcX5_isPlace (by decide +kernel)) rfl
theorem dX5_isPlace_12 : decode cX5_isPlace 12 = .ok (.iconst 1, 1) := dq_4 (fd_r fcX5_isPlace (by decide +kernel))
theorem dX5_isPlace_13 : decode cX5_isPlace 13 = .ok (.goto 4, 3) := dq_167 (a := 0) (b := 4) (fd_r fcX5_isPlace (by decide +kernel)) rfl
theorem dX5_isPlace_16 : decode cX5_isPlace 16 = .ok (.iconst 0, 1) := dq_3 (fd_r fcX5_isPlace (by decide +kernel))
theorem dX5_isPlace_17 : decode cX5_isPlace 17 = .ok (.ireturn, 1) := dq_172 (fd_r fcX5_isPlace (by decide +kernel))
theorem dX5_armAt_0 : decode cX5_armAt 0 = .ok (.aload_n 0, 1) := dq_42 (fd_r fcX5_armAt (by decide +kernel))
theorem dX5_armAt_1 : decode cX5_armAt 1 = .ok (.iload_n 1, 1) := dq_27 (fd_r fcX5_armAt (by decide +kernel))
theorem dX5_armAt_2 : decode cX5_armAt 2 = .ok (.invokevirtual 34, 3) := dq_182 (a := 0) (b := 34) (fd_r fcX5_armAt (by decide +kernel)) rfl
theorem dX5_armAt_5 : decode cX5_armAt 5 = .ok (.ifCond .eq 12, 3) := dq_153 (a := 0) (b := 12) (fd_r fcX5_armAt (by decide +kernel)) rfl
theorem dX5_armAt_8 : decode cX5_armAt 8 = .ok (.aload_n 0, 1) := dq_42 (fd_r fcX5_armAt (by decide +kernel))
theorem dX5_armAt_9 : decode cX5_armAt 9 = .ok (.getfield 9, 3) := dq_180 (a := 0) (b := 9) (fd_r fcX5_armAt (by decide +kernel)) rfl
theorem dX5_armAt_12 : decode cX5_armAt 12 = .ok (.iload_n 1, 1) := dq_27 (fd_r fcX5_armAt (by decide +kernel))
theorem dX5_armAt_13 : decode cX5_armAt 13 = .ok (.iaload, 1) := dq_46 (fd_r fcX5_armAt (by decide +kernel))
theorem dX5_armAt_14 : decode cX5_armAt 14 = .ok (.goto 4, 3) := dq_167 (a := 0) (b := 4) (fd_r fcX5_armAt (by decide +kernel)) rfl
theorem dX5_armAt_17 : decode cX5_armAt 17 = .ok (.iconst (-1), 1) := dq_2 (fd_r fcX5_armAt (by decide +kernel))
theorem dX5_armAt_18 : decode cX5_armAt 18 = .ok (.ireturn, 1) := dq_172 (fd_r fcX5_armAt (by decide +kernel))
theorem dX5_exchange_0 : decode cX5_exchange 0 = .ok (.aload_n 0, 1) := dq_42 (fd_r fcX5_exchange (by decide +kernel))
theorem dX5_exchange_1 : decode cX5_exchange 1 = .ok (.iload_n 1, 1) := dq_27 (fd_r fcX5_exchange (by decide +kernel))
theorem dX5_exchange_2 : decode cX5_exchange 2 = .ok (.invokevirtual 34, 3) := dq_182 (a := 0) (b := 34) (fd_r fcX5_exchange (by decide +kernel)) rfl
theorem dX5_exchange_5 : decode cX5_exchange 5 = .ok (.ifCond .eq 37, 3) := dq_153 (a := 0) (b := 37) (fd_r fcX5_exchange (by decide +kernel)) rfl
theorem dX5_exchange_8 : decode cX5_exchange 8 = .ok (.aload_n 0, 1) := dq_42 (fd_r fcX5_exchange (by decide +kernel))
theorem dX5_exchange_9 : decode cX5_exchange 9 = .ok (.iload_n 2, 1) := dq_28 (fd_r fcX5_exchange (by decide +kernel))
theorem dX5_exchange_10 : decode cX5_exchange 10 = .ok (.invokevirtual 34, 3) := dq_182 (a := 0) (b := 34) (fd_r fcX5_exchange (by decide +kernel)) rfl
theorem dX5_exchange_13 : decode cX5_exchange 13 = .ok (.ifCond .eq 29, 3) := dq_153 (a := 0) (b := 29) (fd_r fcX5_exchange (by decide +kernel)) rfl
theorem dX5_exchange_16 : decode cX5_exchange 16 = .ok (.aload_n 0, 1) := dq_42 (fd_r fcX5_exchange (by decide +kernel))
theorem dX5_exchange_17 : decode cX5_exchange 17 = .ok (.getfield 9, 3) := dq_180 (a := 0) (b := 9) (fd_r fcX5_exchange (by decide +kernel)) rfl
theorem dX5_exchange_20 : decode cX5_exchange 20 = .ok (.iload_n 1, 1) := dq_27 (fd_r fcX5_exchange (by decide +kernel))
theorem dX5_exchange_21 : decode cX5_exchange 21 = .ok (.iaload, 1) := dq_46 (fd_r fcX5_exchange (by decide +kernel))
theorem dX5_exchange_22 : decode cX5_exchange 22 = .ok (.istore_n 3, 1) := dq_62 (fd_r fcX5_exchange (by decide +kernel))
theorem dX5_exchange_23 : decode cX5_exchange 23 = .ok (.aload_n 0, 1) := dq_42 (fd_r fcX5_exchange (by decide +kernel))
theorem dX5_exchange_24 : decode cX5_exchange 24 = .ok (.getfield 9, 3) := dq_180 (a := 0) (b := 9) (fd_r fcX5_exchange (by decide +kernel)) rfl
theorem dX5_exchange_27 : decode cX5_exchange 27 = .ok (.iload_n 1, 1) := dq_27 (fd_r fcX5_exchange (by decide +kernel))
theorem dX5_exchange_28 : decode cX5_exchange 28 = .ok (.aload_n 0, 1) := dq_42 (fd_r fcX5_exchange (by decide +kernel))
theorem dX5_exchange_29 : decode cX5_exchange 29 = .ok (.getfield 9, 3) := dq_180 (a := 0) (b := 9) (fd_r fcX5_exchange (by decide +kernel)) rfl
theorem dX5_exchange_32 : decode cX5_exchange 32 = .ok (.iload_n 2, 1) := dq_28 (fd_r fcX5_exchange (by decide +kernel))
theorem dX5_exchange_33 : decode cX5_exchange 33 = .ok (.iaload, 1) := dq_46 (fd_r fcX5_exchange (by decide +kernel))
theorem dX5_exchange_34 : decode cX5_exchange 34 = .ok (.iastore, 1) := dq_79 (fd_r fcX5_exchange (by decide +kernel))
theorem dX5_exchange_35 : decode cX5_exchange 35 = .ok (.aload_n 0, 1) := dq_42 (fd_r fcX5_exchange (by decide +kernel))
theorem dX5_exchange_36 : decode cX5_exchange 36 = .ok (.getfield 9, 3) := dq_180 (a := 0) (b := 9) (fd_r fcX5_exchange (by decide +kernel)) rfl
theorem dX5_exchange_39 : decode cX5_exchange 39 = .ok (.iload_n 2, 1) := dq_28 (fd_r fcX5_exchange (by decide +kernel))
theorem dX5_exchange_40 : decode cX5_exchange 40 = .ok (.iload_n 3, 1) := dq_29 (fd_r fcX5_exchange (by decide +kernel))
theorem dX5_exchange_41 : decode cX5_exchange 41 = .ok (.iastore, 1) := dq_79 (fd_r fcX5_exchange (by decide +kernel))
theorem dX5_exchange_42 : decode cX5_exchange 42 = .ok (.return_, 1) := dq_177 (fd_r fcX5_exchange (by decide +kernel))
theorem dX5_takeOut_0 : decode cX5_takeOut 0 = .ok (.aload_n 0, 1) := dq_42 (fd_r fcX5_takeOut (by decide +kernel))
theorem dX5_takeOut_1 : decode cX5_takeOut 1 = .ok (.iload_n 1, 1) := dq_27 (fd_r fcX5_takeOut (by decide +kernel))
theorem dX5_takeOut_2 : decode cX5_takeOut 2 = .ok (.invokevirtual 34, 3) := dq_182 (a := 0) (b := 34) (fd_r fcX5_takeOut (by decide +kernel)) rfl
theorem dX5_takeOut_5 : decode cX5_takeOut 5 = .ok (.ifCond .eq 45, 3) := dq_153 (a := 0) (b := 45) (fd_r fcX5_takeOut (by decide +kernel)) rfl
theorem dX5_takeOut_8 : decode cX5_takeOut 8 = .ok (.iload_n 1, 1) := dq_27 (fd_r fcX5_takeOut (by decide +kernel))
theorem dX5_takeOut_9 : decode cX5_takeOut 9 = .ok (.istore_n 2, 1) := dq_61 (fd_r fcX5_takeOut (by decide +kernel))
theorem dX5_takeOut_10 : decode cX5_takeOut 10 = .ok (.iload_n 2, 1) := dq_28 (fd_r fcX5_takeOut (by decide +kernel))
theorem dX5_takeOut_11 : decode cX5_takeOut 11 = .ok (.iconst 1, 1) := dq_4 (fd_r fcX5_takeOut (by decide +kernel))
theorem dX5_takeOut_12 : decode cX5_takeOut 12 = .ok (.iadd, 1) := dq_96 (fd_r fcX5_takeOut (by decide +kernel))
theorem dX5_takeOut_13 : decode cX5_takeOut 13 = .ok (.aload_n 0, 1) := dq_42 (fd_r fcX5_takeOut (by decide +kernel))
theorem dX5_takeOut_14 : decode cX5_takeOut 14 = .ok (.getfield 24, 3) := dq_180 (a := 0) (b := 24) (fd_r fcX5_takeOut (by decide +kernel)) rfl
theorem dX5_takeOut_17 : decode cX5_takeOut 17 = .ok (.if_icmp .ge 23, 3) := dq_162 (a := 0) (b := 23) (fd_r fcX5_takeOut (by decide +kernel)) rfl
theorem dX5_takeOut_20 : decode cX5_takeOut 20 = .ok (.aload_n 0, 1) := dq_42 (fd_r fcX5_takeOut (by decide +kernel))
theorem dX5_takeOut_21 : decode cX5_takeOut 21 = .ok (.getfield 9, 3) := dq_180 (a := 0) (b := 9) (fd_r fcX5_takeOut (by decide +kernel)) rfl
theorem dX5_takeOut_24 : decode cX5_takeOut 24 = .ok (.iload_n 2, 1) := dq_28 (fd_r fcX5_takeOut (by decide +kernel))
theorem dX5_takeOut_25 : decode cX5_takeOut 25 = .ok (.aload_n 0, 1) := dq_42 (fd_r fcX5_takeOut (by decide +kernel))
theorem dX5_takeOut_26 : decode cX5_takeOut 26 = .ok (.getfield 9, 3) := dq_180 (a := 0) (b := 9) (fd_r fcX5_takeOut (by decide +kernel)) rfl
theorem dX5_takeOut_29 : decode cX5_takeOut 29 = .ok (.iload_n 2, 1) := dq_28 (fd_r fcX5_takeOut (by decide +kernel))
theorem dX5_takeOut_30 : decode cX5_takeOut 30 = .ok (.iconst 1, 1) := dq_4 (fd_r fcX5_takeOut (by decide +kernel))
theorem dX5_takeOut_31 : decode cX5_takeOut 31 = .ok (.iadd, 1) := dq_96 (fd_r fcX5_takeOut (by decide +kernel))
theorem dX5_takeOut_32 : decode cX5_takeOut 32 = .ok (.iaload, 1) := dq_46 (fd_r fcX5_takeOut (by decide +kernel))
theorem dX5_takeOut_33 : decode cX5_takeOut 33 = .ok (.iastore, 1) := dq_79 (fd_r fcX5_takeOut (by decide +kernel))
theorem dX5_takeOut_34 : decode cX5_takeOut 34 = .ok (.iinc 2 1, 3) := dq_132 (a := 2) (b := 1) (fd_r fcX5_takeOut (by decide +kernel)) rfl
theorem dX5_takeOut_37 : decode cX5_takeOut 37 = .ok (.goto (-27), 3) := dq_167 (a := 255) (b := 229) (fd_r fcX5_takeOut (by decide +kernel)) rfl
theorem dX5_takeOut_40 : decode cX5_takeOut 40 = .ok (.aload_n 0, 1) := dq_42 (fd_r fcX5_takeOut (by decide +kernel))
theorem dX5_takeOut_41 : decode cX5_takeOut 41 = .ok (.dup, 1) := dq_89 (fd_r fcX5_takeOut (by decide +kernel))
theorem dX5_takeOut_42 : decode cX5_takeOut 42 = .ok (.getfield 24, 3) := dq_180 (a := 0) (b := 24) (fd_r fcX5_takeOut (by decide +kernel)) rfl
theorem dX5_takeOut_45 : decode cX5_takeOut 45 = .ok (.iconst 1, 1) := dq_4 (fd_r fcX5_takeOut (by decide +kernel))
theorem dX5_takeOut_46 : decode cX5_takeOut 46 = .ok (.isub, 1) := dq_100 (fd_r fcX5_takeOut (by decide +kernel))
theorem dX5_takeOut_47 : decode cX5_takeOut 47 = .ok (.putfield 24, 3) := dq_181 (a := 0) (b := 24) (fd_r fcX5_takeOut (by decide +kernel)) rfl
theorem dX5_takeOut_50 : decode cX5_takeOut 50 = .ok (.return_, 1) := dq_177 (fd_r fcX5_takeOut (by decide +kernel))
theorem dX5_allArms_0 : decode cX5_allArms 0 = .ok (.iconst 0, 1) := dq_3 (fd_r fcX5_allArms (by decide +kernel))
theorem dX5_allArms_1 : decode cX5_allArms 1 = .ok (.istore_n 1, 1) := dq_60 (fd_r fcX5_allArms (by decide +kernel))
theorem dX5_allArms_2 : decode cX5_allArms 2 = .ok (.iconst 0, 1) := dq_3 (fd_r fcX5_allArms (by decide +kernel))
theorem dX5_allArms_3 : decode cX5_allArms 3 = .ok (.istore_n 2, 1) := dq_61 (fd_r fcX5_allArms (by decide +kernel))
theorem dX5_allArms_4 : decode cX5_allArms 4 = .ok (.iload_n 2, 1) := dq_28 (fd_r fcX5_allArms (by decide +kernel))
theorem dX5_allArms_5 : decode cX5_allArms 5 = .ok (.aload_n 0, 1) := dq_42 (fd_r fcX5_allArms (by decide +kernel))
theorem dX5_allArms_6 : decode cX5_allArms 6 = .ok (.getfield 24, 3) := dq_180 (a := 0) (b := 24) (fd_r fcX5_allArms (by decide +kernel)) rfl
theorem dX5_allArms_9 : decode cX5_allArms 9 = .ok (.if_icmp .ge 20, 3) := dq_162 (a := 0) (b := 20) (fd_r fcX5_allArms (by decide +kernel)) rfl
theorem dX5_allArms_12 : decode cX5_allArms 12 = .ok (.iload_n 1, 1) := dq_27 (fd_r fcX5_allArms (by decide +kernel))
theorem dX5_allArms_13 : decode cX5_allArms 13 = .ok (.iconst 1, 1) := dq_4 (fd_r fcX5_allArms (by decide +kernel))
theorem dX5_allArms_14 : decode cX5_allArms 14 = .ok (.aload_n 0, 1) := dq_42 (fd_r fcX5_allArms (by decide +kernel))
theorem dX5_allArms_15 : decode cX5_allArms 15 = .ok (.getfield 9, 3) := dq_180 (a := 0) (b := 9) (fd_r fcX5_allArms (by decide +kernel)) rfl
theorem dX5_allArms_18 : decode cX5_allArms 18 = .ok (.iload_n 2, 1) := dq_28 (fd_r fcX5_allArms (by decide +kernel))
theorem dX5_allArms_19 : decode cX5_allArms 19 = .ok (.iaload, 1) := dq_46 (fd_r fcX5_allArms (by decide +kernel))
theorem dX5_allArms_20 : decode cX5_allArms 20 = .ok (.ishl, 1) := dq_120 (fd_r fcX5_allArms (by decide +kernel))
theorem dX5_allArms_21 : decode cX5_allArms 21 = .ok (.ior, 1) := dq_128 (fd_r fcX5_allArms (by decide +kernel))
theorem dX5_allArms_22 : decode cX5_allArms 22 = .ok (.istore_n 1, 1) := dq_60 (fd_r fcX5_allArms (by decide +kernel))
theorem dX5_allArms_23 : decode cX5_allArms 23 = .ok (.iinc 2 1, 3) := dq_132 (a := 2) (b := 1) (fd_r fcX5_allArms (by decide +kernel)) rfl
theorem dX5_allArms_26 : decode cX5_allArms 26 = .ok (.goto (-22), 3) := dq_167 (a := 255) (b := 234) (fd_r fcX5_allArms (by decide +kernel)) rfl
theorem dX5_allArms_29 : decode cX5_allArms 29 = .ok (.iload_n 1, 1) := dq_27 (fd_r fcX5_allArms (by decide +kernel))
theorem dX5_allArms_30 : decode cX5_allArms 30 = .ok (.ireturn, 1) := dq_172 (fd_r fcX5_allArms (by decide +kernel))
theorem dX5_firstOf_0 : decode cX5_firstOf 0 = .ok (.iconst 0, 1) := dq_3 (fd_r fcX5_firstOf (by decide +kernel))
theorem dX5_firstOf_1 : decode cX5_firstOf 1 = .ok (.istore_n 2, 1) := dq_61 (fd_r fcX5_firstOf (by decide +kernel))
theorem dX5_firstOf_2 : decode cX5_firstOf 2 = .ok (.iload_n 2, 1) := dq_28 (fd_r fcX5_firstOf (by decide +kernel))
theorem dX5_firstOf_3 : decode cX5_firstOf 3 = .ok (.aload_n 0, 1) := dq_42 (fd_r fcX5_firstOf (by decide +kernel))
theorem dX5_firstOf_4 : decode cX5_firstOf 4 = .ok (.getfield 24, 3) := dq_180 (a := 0) (b := 24) (fd_r fcX5_firstOf (by decide +kernel)) rfl
theorem dX5_firstOf_7 : decode cX5_firstOf 7 = .ok (.if_icmp .ge 29, 3) := dq_162 (a := 0) (b := 29) (fd_r fcX5_firstOf (by decide +kernel)) rfl
theorem dX5_firstOf_10 : decode cX5_firstOf 10 = .ok (.iload_n 1, 1) := dq_27 (fd_r fcX5_firstOf (by decide +kernel))
theorem dX5_firstOf_11 : decode cX5_firstOf 11 = .ok (.aload_n 0, 1) := dq_42 (fd_r fcX5_firstOf (by decide +kernel))
theorem dX5_firstOf_12 : decode cX5_firstOf 12 = .ok (.getfield 9, 3) := dq_180 (a := 0) (b := 9) (fd_r fcX5_firstOf (by decide +kernel)) rfl
theorem dX5_firstOf_15 : decode cX5_firstOf 15 = .ok (.iload_n 2, 1) := dq_28 (fd_r fcX5_firstOf (by decide +kernel))
theorem dX5_firstOf_16 : decode cX5_firstOf 16 = .ok (.iaload, 1) := dq_46 (fd_r fcX5_firstOf (by decide +kernel))
theorem dX5_firstOf_17 : decode cX5_firstOf 17 = .ok (.invokestatic 38, 3) := dq_184 (a := 0) (b := 38) (fd_r fcX5_firstOf (by decide +kernel)) rfl
theorem dX5_firstOf_20 : decode cX5_firstOf 20 = .ok (.ifCond .eq 10, 3) := dq_153 (a := 0) (b := 10) (fd_r fcX5_firstOf (by decide +kernel)) rfl
theorem dX5_firstOf_23 : decode cX5_firstOf 23 = .ok (.aload_n 0, 1) := dq_42 (fd_r fcX5_firstOf (by decide +kernel))
theorem dX5_firstOf_24 : decode cX5_firstOf 24 = .ok (.getfield 9, 3) := dq_180 (a := 0) (b := 9) (fd_r fcX5_firstOf (by decide +kernel)) rfl
theorem dX5_firstOf_27 : decode cX5_firstOf 27 = .ok (.iload_n 2, 1) := dq_28 (fd_r fcX5_firstOf (by decide +kernel))
theorem dX5_firstOf_28 : decode cX5_firstOf 28 = .ok (.iaload, 1) := dq_46 (fd_r fcX5_firstOf (by decide +kernel))
theorem dX5_firstOf_29 : decode cX5_firstOf 29 = .ok (.ireturn, 1) := dq_172 (fd_r fcX5_firstOf (by decide +kernel))
theorem dX5_firstOf_30 : decode cX5_firstOf 30 = .ok (.iinc 2 1, 3) := dq_132 (a := 2) (b := 1) (fd_r fcX5_firstOf (by decide +kernel)) rfl
theorem dX5_firstOf_33 : decode cX5_firstOf 33 = .ok (.goto (-31), 3) := dq_167 (a := 255) (b := 225) (fd_r fcX5_firstOf (by decide +kernel)) rfl
theorem dX5_firstOf_36 : decode cX5_firstOf 36 = .ok (.iconst (-1), 1) := dq_2 (fd_r fcX5_firstOf (by decide +kernel))
theorem dX5_firstOf_37 : decode cX5_firstOf 37 = .ok (.ireturn, 1) := dq_172 (fd_r fcX5_firstOf (by decide +kernel))
theorem dX5_unguarded_0 : decode cX5_unguarded 0 = .ok (.iconst 0, 1) := dq_3 (fd_r fcX5_unguarded (by decide +kernel))
theorem dX5_unguarded_1 : decode cX5_unguarded 1 = .ok (.istore_n 3, 1) := dq_62 (fd_r fcX5_unguarded (by decide +kernel))
theorem dX5_unguarded_2 : decode cX5_unguarded 2 = .ok (.iconst 0, 1) := dq_3 (fd_r fcX5_unguarded (by decide +kernel))
theorem dX5_unguarded_3 : decode cX5_unguarded 3 = .ok (.istore 4, 2) := dq_54 (a := 4) (fd_r fcX5_unguarded (by decide +kernel))
theorem dX5_unguarded_5 : decode cX5_unguarded 5 = .ok (.iload 4, 2) := dq_21 (a := 4) (fd_r fcX5_unguarded (by decide +kernel))
theorem dX5_unguarded_7 : decode cX5_unguarded 7 = .ok (.iload_n 2, 1) := dq_28 (fd_r fcX5_unguarded (by decide +kernel))
theorem dX5_unguarded_8 : decode cX5_unguarded 8 = .ok (.if_icmp .ge 45, 3) := dq_162 (a := 0) (b := 45) (fd_r fcX5_unguarded (by decide +kernel)) rfl
theorem dX5_unguarded_11 : decode cX5_unguarded 11 = .ok (.iload 4, 2) := dq_21 (a := 4) (fd_r fcX5_unguarded (by decide +kernel))
theorem dX5_unguarded_13 : decode cX5_unguarded 13 = .ok (.aload_n 0, 1) := dq_42 (fd_r fcX5_unguarded (by decide +kernel))
theorem dX5_unguarded_14 : decode cX5_unguarded 14 = .ok (.getfield 24, 3) := dq_180 (a := 0) (b := 24) (fd_r fcX5_unguarded (by decide +kernel)) rfl
theorem dX5_unguarded_17 : decode cX5_unguarded 17 = .ok (.if_icmp .ge 36, 3) := dq_162 (a := 0) (b := 36) (fd_r fcX5_unguarded (by decide +kernel)) rfl
theorem dX5_unguarded_20 : decode cX5_unguarded 20 = .ok (.aload_n 1, 1) := dq_43 (fd_r fcX5_unguarded (by decide +kernel))
theorem dX5_unguarded_21 : decode cX5_unguarded 21 = .ok (.aload_n 0, 1) := dq_42 (fd_r fcX5_unguarded (by decide +kernel))
theorem dX5_unguarded_22 : decode cX5_unguarded 22 = .ok (.getfield 9, 3) := dq_180 (a := 0) (b := 9) (fd_r fcX5_unguarded (by decide +kernel)) rfl
theorem dX5_unguarded_25 : decode cX5_unguarded 25 = .ok (.iload 4, 2) := dq_21 (a := 4) (fd_r fcX5_unguarded (by decide +kernel))
theorem dX5_unguarded_27 : decode cX5_unguarded 27 = .ok (.iaload, 1) := dq_46 (fd_r fcX5_unguarded (by decide +kernel))
theorem dX5_unguarded_28 : decode cX5_unguarded 28 = .ok (.invokevirtual 42, 3) := dq_182 (a := 0) (b := 42) (fd_r fcX5_unguarded (by decide +kernel)) rfl
theorem dX5_unguarded_31 : decode cX5_unguarded 31 = .ok (.iconst (-1), 1) := dq_2 (fd_r fcX5_unguarded (by decide +kernel))
theorem dX5_unguarded_32 : decode cX5_unguarded 32 = .ok (.if_icmp .ne 15, 3) := dq_160 (a := 0) (b := 15) (fd_r fcX5_unguarded (by decide +kernel)) rfl
theorem dX5_unguarded_35 : decode cX5_unguarded 35 = .ok (.iload_n 3, 1) := dq_29 (fd_r fcX5_unguarded (by decide +kernel))
theorem dX5_unguarded_36 : decode cX5_unguarded 36 = .ok (.iconst 1, 1) := dq_4 (fd_r fcX5_unguarded (by decide +kernel))
theorem dX5_unguarded_37 : decode cX5_unguarded 37 = .ok (.aload_n 0, 1) := dq_42 (fd_r fcX5_unguarded (by decide +kernel))
theorem dX5_unguarded_38 : decode cX5_unguarded 38 = .ok (.getfield 9, 3) := dq_180 (a := 0) (b := 9) (fd_r fcX5_unguarded (by decide +kernel)) rfl
theorem dX5_unguarded_41 : decode cX5_unguarded 41 = .ok (.iload 4, 2) := dq_21 (a := 4) (fd_r fcX5_unguarded (by decide +kernel))
theorem dX5_unguarded_43 : decode cX5_unguarded 43 = .ok (.iaload, 1) := dq_46 (fd_r fcX5_unguarded (by decide +kernel))
theorem dX5_unguarded_44 : decode cX5_unguarded 44 = .ok (.ishl, 1) := dq_120 (fd_r fcX5_unguarded (by decide +kernel))
theorem dX5_unguarded_45 : decode cX5_unguarded 45 = .ok (.ior, 1) := dq_128 (fd_r fcX5_unguarded (by decide +kernel))
theorem dX5_unguarded_46 : decode cX5_unguarded 46 = .ok (.istore_n 3, 1) := dq_62 (fd_r fcX5_unguarded (by decide +kernel))
theorem dX5_unguarded_47 : decode cX5_unguarded 47 = .ok (.iinc 4 1, 3) := dq_132 (a := 4) (b := 1) (fd_r fcX5_unguarded (by decide +kernel)) rfl
theorem dX5_unguarded_50 : decode cX5_unguarded 50 = .ok (.goto (-45), 3) := dq_167 (a := 255) (b := 211) (fd_r fcX5_unguarded (by decide +kernel)) rfl
theorem dX5_unguarded_53 : decode cX5_unguarded 53 = .ok (.iload_n 3, 1) := dq_29 (fd_r fcX5_unguarded (by decide +kernel))
theorem dX5_unguarded_54 : decode cX5_unguarded 54 = .ok (.ireturn, 1) := dq_172 (fd_r fcX5_unguarded (by decide +kernel))
theorem dX5_placeTaking_0 : decode cX5_placeTaking 0 = .ok (.iconst 0, 1) := dq_3 (fd_r fcX5_placeTaking (by decide +kernel))
theorem dX5_placeTaking_1 : decode cX5_placeTaking 1 = .ok (.istore 4, 2) := dq_54 (a := 4) (fd_r fcX5_placeTaking (by decide +kernel))
theorem dX5_placeTaking_3 : decode cX5_placeTaking 3 = .ok (.iload 4, 2) := dq_21 (a := 4) (fd_r fcX5_placeTaking (by decide +kernel))
theorem dX5_placeTaking_5 : decode cX5_placeTaking 5 = .ok (.aload_n 0, 1) := dq_42 (fd_r fcX5_placeTaking (by decide +kernel))
theorem dX5_placeTaking_6 : decode cX5_placeTaking 6 = .ok (.getfield 24, 3) := dq_180 (a := 0) (b := 24) (fd_r fcX5_placeTaking (by decide +kernel)) rfl
theorem dX5_placeTaking_9 : decode cX5_placeTaking 9 = .ok (.if_icmp .ge 54, 3) := dq_162 (a := 0) (b := 54) (fd_r fcX5_placeTaking (by decide +kernel)) rfl
theorem dX5_placeTaking_12 : decode cX5_placeTaking 12 = .ok (.iload_n 2, 1) := dq_28 (fd_r fcX5_placeTaking (by decide +kernel))
theorem dX5_placeTaking_13 : decode cX5_placeTaking 13 = .ok (.aload_n 0, 1) := dq_42 (fd_r fcX5_placeTaking (by decide +kernel))
theorem dX5_placeTaking_14 : decode cX5_placeTaking 14 = .ok (.getfield 9, 3) := dq_180 (a := 0) (b := 9) (fd_r fcX5_placeTaking (by decide +kernel)) rfl
theorem dX5_placeTaking_17 : decode cX5_placeTaking 17 = .ok (.iload 4, 2) := dq_21 (a := 4) (fd_r fcX5_placeTaking (by decide +kernel))
theorem dX5_placeTaking_19 : decode cX5_placeTaking 19 = .ok (.iaload, 1) := dq_46 (fd_r fcX5_placeTaking (by decide +kernel))
theorem dX5_placeTaking_20 : decode cX5_placeTaking 20 = .ok (.invokestatic 38, 3) := dq_184 (a := 0) (b := 38) (fd_r fcX5_placeTaking (by decide +kernel)) rfl
theorem dX5_placeTaking_23 : decode cX5_placeTaking 23 = .ok (.ifCond .eq 34, 3) := dq_153 (a := 0) (b := 34) (fd_r fcX5_placeTaking (by decide +kernel)) rfl
theorem dX5_placeTaking_26 : decode cX5_placeTaking 26 = .ok (.aload_n 1, 1) := dq_43 (fd_r fcX5_placeTaking (by decide +kernel))
theorem dX5_placeTaking_27 : decode cX5_placeTaking 27 = .ok (.aload_n 0, 1) := dq_42 (fd_r fcX5_placeTaking (by decide +kernel))
theorem dX5_placeTaking_28 : decode cX5_placeTaking 28 = .ok (.getfield 9, 3) := dq_180 (a := 0) (b := 9) (fd_r fcX5_placeTaking (by decide +kernel)) rfl
theorem dX5_placeTaking_31 : decode cX5_placeTaking 31 = .ok (.iload 4, 2) := dq_21 (a := 4) (fd_r fcX5_placeTaking (by decide +kernel))
theorem dX5_placeTaking_33 : decode cX5_placeTaking 33 = .ok (.iaload, 1) := dq_46 (fd_r fcX5_placeTaking (by decide +kernel))
theorem dX5_placeTaking_34 : decode cX5_placeTaking 34 = .ok (.invokevirtual 42, 3) := dq_182 (a := 0) (b := 42) (fd_r fcX5_placeTaking (by decide +kernel)) rfl
theorem dX5_placeTaking_37 : decode cX5_placeTaking 37 = .ok (.istore 5, 2) := dq_54 (a := 5) (fd_r fcX5_placeTaking (by decide +kernel))
theorem dX5_placeTaking_39 : decode cX5_placeTaking 39 = .ok (.iload 5, 2) := dq_21 (a := 5) (fd_r fcX5_placeTaking (by decide +kernel))
theorem dX5_placeTaking_41 : decode cX5_placeTaking 41 = .ok (.iconst (-1), 1) := dq_2 (fd_r fcX5_placeTaking (by decide +kernel))
theorem dX5_placeTaking_42 : decode cX5_placeTaking 42 = .ok (.if_icmp .eq 12, 3) := dq_159 (a := 0) (b := 12) (fd_r fcX5_placeTaking (by decide +kernel)) rfl
theorem dX5_placeTaking_45 : decode cX5_placeTaking 45 = .ok (.iload_n 3, 1) := dq_29 (fd_r fcX5_placeTaking (by decide +kernel))
theorem dX5_placeTaking_46 : decode cX5_placeTaking 46 = .ok (.iload 5, 2) := dq_21 (a := 5) (fd_r fcX5_placeTaking (by decide +kernel))
theorem dX5_placeTaking_48 : decode cX5_placeTaking 48 = .ok (.invokestatic 38, 3) := dq_184 (a := 0) (b := 38) (fd_r fcX5_placeTaking (by decide +kernel)) rfl
theorem dX5_placeTaking_51 : decode cX5_placeTaking 51 = .ok (.ifCond .eq 6, 3) := dq_153 (a := 0) (b := 6) (fd_r fcX5_placeTaking (by decide +kernel)) rfl
theorem dX5_placeTaking_54 : decode cX5_placeTaking 54 = .ok (.iload 4, 2) := dq_21 (a := 4) (fd_r fcX5_placeTaking (by decide +kernel))
theorem dX5_placeTaking_56 : decode cX5_placeTaking 56 = .ok (.ireturn, 1) := dq_172 (fd_r fcX5_placeTaking (by decide +kernel))
theorem dX5_placeTaking_57 : decode cX5_placeTaking 57 = .ok (.iinc 4 1, 3) := dq_132 (a := 4) (b := 1) (fd_r fcX5_placeTaking (by decide +kernel)) rfl
theorem dX5_placeTaking_60 : decode cX5_placeTaking 60 = .ok (.goto (-57), 3) := dq_167 (a := 255) (b := 199) (fd_r fcX5_placeTaking (by decide +kernel)) rfl
theorem dX5_placeTaking_63 : decode cX5_placeTaking 63 = .ok (.iconst (-1), 1) := dq_2 (fd_r fcX5_placeTaking (by decide +kernel))
theorem dX5_placeTaking_64 : decode cX5_placeTaking 64 = .ok (.ireturn, 1) := dq_172 (fd_r fcX5_placeTaking (by decide +kernel))
theorem dX5_takings_0 : decode cX5_takings 0 = .ok (.lconst 0, 1) := dq_9 (fd_r fcX5_takings (by decide +kernel))
theorem dX5_takings_1 : decode cX5_takings 1 = .ok (.lstore_n 3, 1) := dq_66 (fd_r fcX5_takings (by decide +kernel))
theorem dX5_takings_2 : decode cX5_takings 2 = .ok (.iconst 0, 1) := dq_3 (fd_r fcX5_takings (by decide +kernel))
theorem dX5_takings_3 : decode cX5_takings 3 = .ok (.istore 5, 2) := dq_54 (a := 5) (fd_r fcX5_takings (by decide +kernel))
theorem dX5_takings_5 : decode cX5_takings 5 = .ok (.iconst 0, 1) := dq_3 (fd_r fcX5_takings (by decide +kernel))
theorem dX5_takings_6 : decode cX5_takings 6 = .ok (.istore 6, 2) := dq_54 (a := 6) (fd_r fcX5_takings (by decide +kernel))
theorem dX5_takings_8 : decode cX5_takings 8 = .ok (.iload 6, 2) := dq_21 (a := 6) (fd_r fcX5_takings (by decide +kernel))
theorem dX5_takings_10 : decode cX5_takings 10 = .ok (.aload_n 0, 1) := dq_42 (fd_r fcX5_takings (by decide +kernel))
theorem dX5_takings_11 : decode cX5_takings 11 = .ok (.getfield 24, 3) := dq_180 (a := 0) (b := 24) (fd_r fcX5_takings (by decide +kernel)) rfl
theorem dX5_takings_14 : decode cX5_takings 14 = .ok (.if_icmp .ge 83, 3) := dq_162 (a := 0) (b := 83) (fd_r fcX5_takings (by decide +kernel)) rfl
theorem dX5_takings_17 : decode cX5_takings 17 = .ok (.aload_n 0, 1) := dq_42 (fd_r fcX5_takings (by decide +kernel))
theorem dX5_takings_18 : decode cX5_takings 18 = .ok (.getfield 9, 3) := dq_180 (a := 0) (b := 9) (fd_r fcX5_takings (by decide +kernel)) rfl
theorem dX5_takings_21 : decode cX5_takings 21 = .ok (.iload 6, 2) := dq_21 (a := 6) (fd_r fcX5_takings (by decide +kernel))
theorem dX5_takings_23 : decode cX5_takings 23 = .ok (.iaload, 1) := dq_46 (fd_r fcX5_takings (by decide +kernel))
theorem dX5_takings_24 : decode cX5_takings 24 = .ok (.istore 7, 2) := dq_54 (a := 7) (fd_r fcX5_takings (by decide +kernel))
theorem dX5_takings_26 : decode cX5_takings 26 = .ok (.aload_n 1, 1) := dq_43 (fd_r fcX5_takings (by decide +kernel))
theorem dX5_takings_27 : decode cX5_takings 27 = .ok (.iload 7, 2) := dq_21 (a := 7) (fd_r fcX5_takings (by decide +kernel))
theorem dX5_takings_29 : decode cX5_takings 29 = .ok (.invokevirtual 42, 3) := dq_182 (a := 0) (b := 42) (fd_r fcX5_takings (by decide +kernel)) rfl
theorem dX5_takings_32 : decode cX5_takings 32 = .ok (.istore 8, 2) := dq_54 (a := 8) (fd_r fcX5_takings (by decide +kernel))
theorem dX5_takings_34 : decode cX5_takings 34 = .ok (.iload_n 2, 1) := dq_28 (fd_r fcX5_takings (by decide +kernel))
theorem dX5_takings_35 : decode cX5_takings 35 = .ok (.iload 7, 2) := dq_21 (a := 7) (fd_r fcX5_takings (by decide +kernel))
theorem dX5_takings_37 : decode cX5_takings 37 = .ok (.invokestatic 38, 3) := dq_184 (a := 0) (b := 38) (fd_r fcX5_takings (by decide +kernel)) rfl
theorem dX5_takings_40 : decode cX5_takings 40 = .ok (.ifCond .eq 51, 3) := dq_153 (a := 0) (b := 51) (fd_r fcX5_takings (by decide +kernel)) rfl
theorem dX5_takings_43 : decode cX5_takings 43 = .ok (.iload 8, 2) := dq_21 (a := 8) (fd_r fcX5_takings (by decide +kernel))
theorem dX5_takings_45 : decode cX5_takings 45 = .ok (.iconst (-1), 1) := dq_2 (fd_r fcX5_takings (by decide +kernel))
theorem dX5_takings_46 : decode cX5_takings 46 = .ok (.if_icmp .eq 16, 3) := dq_159 (a := 0) (b := 16) (fd_r fcX5_takings (by decide +kernel)) rfl
theorem dX5_takings_49 : decode cX5_takings 49 = .ok (.iload 5, 2) := dq_21 (a := 5) (fd_r fcX5_takings (by decide +kernel))
theorem dX5_takings_51 : decode cX5_takings 51 = .ok (.iload 8, 2) := dq_21 (a := 8) (fd_r fcX5_takings (by decide +kernel))
theorem dX5_takings_53 : decode cX5_takings 53 = .ok (.invokestatic 38, 3) := dq_184 (a := 0) (b := 38) (fd_r fcX5_takings (by decide +kernel)) rfl
theorem dX5_takings_56 : decode cX5_takings 56 = .ok (.ifCond .eq 6, 3) := dq_153 (a := 0) (b := 6) (fd_r fcX5_takings (by decide +kernel)) rfl
theorem dX5_takings_59 : decode cX5_takings 59 = .ok (.goto 32, 3) := dq_167 (a := 0) (b := 32) (fd_r fcX5_takings (by decide +kernel)) rfl
theorem dX5_takings_62 : decode cX5_takings 62 = .ok (.lload_n 3, 1) := dq_33 (fd_r fcX5_takings (by decide +kernel))
theorem dX5_takings_63 : decode cX5_takings 63 = .ok (.ldc2_w 48, 3) := dq_20 (a := 0) (b := 48) (fd_r fcX5_takings (by decide +kernel)) rfl
theorem dX5_takings_66 : decode cX5_takings 66 = .ok (.lmul, 1) := dq_105 (fd_r fcX5_takings (by decide +kernel))
theorem dX5_takings_67 : decode cX5_takings 67 = .ok (.iload 7, 2) := dq_21 (a := 7) (fd_r fcX5_takings (by decide +kernel))
theorem dX5_takings_69 : decode cX5_takings 69 = .ok (.i2l, 1) := dq_133 (fd_r fcX5_takings (by decide +kernel))
theorem dX5_takings_70 : decode cX5_takings 70 = .ok (.ladd, 1) := dq_97 (fd_r fcX5_takings (by decide +kernel))
theorem dX5_takings_71 : decode cX5_takings 71 = .ok (.lconst 1, 1) := dq_10 (fd_r fcX5_takings (by decide +kernel))
theorem dX5_takings_72 : decode cX5_takings 72 = .ok (.ladd, 1) := dq_97 (fd_r fcX5_takings (by decide +kernel))
theorem dX5_takings_73 : decode cX5_takings 73 = .ok (.lstore_n 3, 1) := dq_66 (fd_r fcX5_takings (by decide +kernel))
theorem dX5_takings_74 : decode cX5_takings 74 = .ok (.iload 8, 2) := dq_21 (a := 8) (fd_r fcX5_takings (by decide +kernel))
theorem dX5_takings_76 : decode cX5_takings 76 = .ok (.iconst (-1), 1) := dq_2 (fd_r fcX5_takings (by decide +kernel))
theorem dX5_takings_77 : decode cX5_takings 77 = .ok (.if_icmp .ne 5, 3) := dq_160 (a := 0) (b := 5) (fd_r fcX5_takings (by decide +kernel)) rfl
theorem dX5_takings_80 : decode cX5_takings 80 = .ok (.lload_n 3, 1) := dq_33 (fd_r fcX5_takings (by decide +kernel))
theorem dX5_takings_81 : decode cX5_takings 81 = .ok (.lreturn, 1) := dq_173 (fd_r fcX5_takings (by decide +kernel))
theorem dX5_takings_82 : decode cX5_takings 82 = .ok (.iload 5, 2) := dq_21 (a := 5) (fd_r fcX5_takings (by decide +kernel))
theorem dX5_takings_84 : decode cX5_takings 84 = .ok (.iconst 1, 1) := dq_4 (fd_r fcX5_takings (by decide +kernel))
theorem dX5_takings_85 : decode cX5_takings 85 = .ok (.iload 8, 2) := dq_21 (a := 8) (fd_r fcX5_takings (by decide +kernel))
theorem dX5_takings_87 : decode cX5_takings 87 = .ok (.ishl, 1) := dq_120 (fd_r fcX5_takings (by decide +kernel))
theorem dX5_takings_88 : decode cX5_takings 88 = .ok (.ior, 1) := dq_128 (fd_r fcX5_takings (by decide +kernel))
theorem dX5_takings_89 : decode cX5_takings 89 = .ok (.istore 5, 2) := dq_54 (a := 5) (fd_r fcX5_takings (by decide +kernel))
theorem dX5_takings_91 : decode cX5_takings 91 = .ok (.iinc 6 1, 3) := dq_132 (a := 6) (b := 1) (fd_r fcX5_takings (by decide +kernel)) rfl
theorem dX5_takings_94 : decode cX5_takings 94 = .ok (.goto (-86), 3) := dq_167 (a := 255) (b := 170) (fd_r fcX5_takings (by decide +kernel)) rfl
theorem dX5_takings_97 : decode cX5_takings 97 = .ok (.lload_n 3, 1) := dq_33 (fd_r fcX5_takings (by decide +kernel))
theorem dX5_takings_98 : decode cX5_takings 98 = .ok (.lreturn, 1) := dq_173 (fd_r fcX5_takings (by decide +kernel))
theorem dX6_init_0 : decode cX6_init 0 = .ok (.aload_n 0, 1) := dq_42 (fd_r fcX6_init (by decide +kernel))
theorem dX6_init_1 : decode cX6_init 1 = .ok (.invokespecial 3, 3) := dq_183 (a := 0) (b := 3) (fd_r fcX6_init (by decide +kernel)) rfl
theorem dX6_init_4 : decode cX6_init 4 = .ok (.aload_n 0, 1) := dq_42 (fd_r fcX6_init (by decide +kernel))
theorem dX6_init_5 : decode cX6_init 5 = .ok (.new 9, 3) := dq_187 (a := 0) (b := 9) (fd_r fcX6_init (by decide +kernel)) rfl
theorem dX6_init_8 : decode cX6_init 8 = .ok (.dup, 1) := dq_89 (fd_r fcX6_init (by decide +kernel))
theorem dX6_init_9 : decode cX6_init 9 = .ok (.invokespecial 11, 3) := dq_183 (a := 0) (b := 11) (fd_r fcX6_init (by decide +kernel)) rfl
theorem dX6_init_12 : decode cX6_init 12 = .ok (.putfield 12, 3) := dq_181 (a := 0) (b := 12) (fd_r fcX6_init (by decide +kernel)) rfl
theorem dX6_init_15 : decode cX6_init 15 = .ok (.aload_n 0, 1) := dq_42 (fd_r fcX6_init (by decide +kernel))
theorem dX6_init_16 : decode cX6_init 16 = .ok (.bipush 10, 2) := dq_16 (a := 10) (fd_r fcX6_init (by decide +kernel)) rfl
theorem dX6_init_18 : decode cX6_init 18 = .ok (.sipush 2048, 3) := dq_17 (a := 8) (b := 0) (fd_r fcX6_init (by decide +kernel)) rfl
theorem dX6_init_21 : decode cX6_init 21 = .ok (.multianewarray 18 2, 4) := by decide +kernel
theorem dX6_init_25 : decode cX6_init 25 = .ok (.putfield 20, 3) := dq_181 (a := 0) (b := 20) (fd_r fcX6_init (by decide +kernel)) rfl
theorem dX6_init_28 : decode cX6_init 28 = .ok (.aload_n 0, 1) := dq_42 (fd_r fcX6_init (by decide +kernel))
theorem dX6_init_29 : decode cX6_init 29 = .ok (.iconst (-1), 1) := dq_2 (fd_r fcX6_init (by decide +kernel))
theorem dX6_init_30 : decode cX6_init 30 = .ok (.putfield 23, 3) := dq_181 (a := 0) (b := 23) (fd_r fcX6_init (by decide +kernel)) rfl
theorem dX6_init_33 : decode cX6_init 33 = .ok (.aload_n 0, 1) := dq_42 (fd_r fcX6_init (by decide +kernel))
theorem dX6_init_34 : decode cX6_init 34 = .ok (.aload_n 1, 1) := dq_43 (fd_r fcX6_init (by decide +kernel))
theorem dX6_init_35 : decode cX6_init 35 = .ok (.putfield 27, 3) := dq_181 (a := 0) (b := 27) (fd_r fcX6_init (by decide +kernel)) rfl
theorem dX6_init_38 : decode cX6_init 38 = .ok (.return_, 1) := dq_177 (fd_r fcX6_init (by decide +kernel))
theorem dX6_readMatch_0 : decode cX6_readMatch 0 = .ok (.aload_n 0, 1) := dq_42 (fd_r fcX6_readMatch (by decide +kernel))
theorem dX6_readMatch_1 : decode cX6_readMatch 1 = .ok (.aload_n 2, 1) := dq_44 (fd_r fcX6_readMatch (by decide +kernel))
theorem dX6_readMatch_2 : decode cX6_readMatch 2 = .ok (.putfield 27, 3) := dq_181 (a := 0) (b := 27) (fd_r fcX6_readMatch (by decide +kernel)) rfl
theorem dX6_readMatch_5 : decode cX6_readMatch 5 = .ok (.aload_n 0, 1) := dq_42 (fd_r fcX6_readMatch (by decide +kernel))
theorem dX6_readMatch_6 : decode cX6_readMatch 6 = .ok (.getfield 27, 3) := dq_180 (a := 0) (b := 27) (fd_r fcX6_readMatch (by decide +kernel)) rfl
theorem dX6_readMatch_9 : decode cX6_readMatch 9 = .ok (.invokevirtual 31, 3) := dq_182 (a := 0) (b := 31) (fd_r fcX6_readMatch (by decide +kernel)) rfl
theorem dX6_readMatch_12 : decode cX6_readMatch 12 = .ok (.aload_n 0, 1) := dq_42 (fd_r fcX6_readMatch (by decide +kernel))
theorem dX6_readMatch_13 : decode cX6_readMatch 13 = .ok (.aload_n 1, 1) := dq_43 (fd_r fcX6_readMatch (by decide +kernel))
theorem dX6_readMatch_14 : decode cX6_readMatch 14 = .ok (.invokevirtual 36, 3) := dq_182 (a := 0) (b := 36) (fd_r fcX6_readMatch (by decide +kernel)) rfl
theorem dX6_readMatch_17 : decode cX6_readMatch 17 = .ok (.iconst 0, 1) := dq_3 (fd_r fcX6_readMatch (by decide +kernel))
theorem dX6_readMatch_18 : decode cX6_readMatch 18 = .ok (.istore_n 3, 1) := dq_62 (fd_r fcX6_readMatch (by decide +kernel))
theorem dX6_readMatch_19 : decode cX6_readMatch 19 = .ok (.aload_n 0, 1) := dq_42 (fd_r fcX6_readMatch (by decide +kernel))
theorem dX6_readMatch_20 : decode cX6_readMatch 20 = .ok (.getfield 12, 3) := dq_180 (a := 0) (b := 12) (fd_r fcX6_readMatch (by decide +kernel)) rfl
theorem dX6_readMatch_23 : decode cX6_readMatch 23 = .ok (.getfield 40, 3) := dq_180 (a := 0) (b := 40) (fd_r fcX6_readMatch (by decide +kernel)) rfl
theorem dX6_readMatch_26 : decode cX6_readMatch 26 = .ok (.ifCond .eq 140, 3) := dq_153 (a := 0) (b := 140) (fd_r fcX6_readMatch (by decide +kernel)) rfl
theorem dX6_readMatch_29 : decode cX6_readMatch 29 = .ok (.iload_n 3, 1) := dq_29 (fd_r fcX6_readMatch (by decide +kernel))
theorem dX6_readMatch_30 : decode cX6_readMatch 30 = .ok (.bipush 60, 2) := dq_16 (a := 60) (fd_r fcX6_readMatch (by decide +kernel)) rfl
theorem dX6_readMatch_32 : decode cX6_readMatch 32 = .ok (.if_icmp .ge 134, 3) := dq_162 (a := 0) (b := 134) (fd_r fcX6_readMatch (by decide +kernel)) rfl
theorem dX6_readMatch_35 : decode cX6_readMatch 35 = .ok (.aload_n 0, 1) := dq_42 (fd_r fcX6_readMatch (by decide +kernel))
theorem dX6_readMatch_36 : decode cX6_readMatch 36 = .ok (.getfield 12, 3) := dq_180 (a := 0) (b := 12) (fd_r fcX6_readMatch (by decide +kernel)) rfl
theorem dX6_readMatch_39 : decode cX6_readMatch 39 = .ok (.getfield 43, 3) := dq_180 (a := 0) (b := 43) (fd_r fcX6_readMatch (by decide +kernel)) rfl
theorem dX6_readMatch_42 : decode cX6_readMatch 42 = .ok (.tableswitch 96 0 6 #[42, 51, 60, 69, 96, 78, 87], 42) := by decide +kernel
theorem dX6_readMatch_84 : decode cX6_readMatch 84 = .ok (.aload_n 0, 1) := dq_42 (fd_r fcX6_readMatch (by decide +kernel))
theorem dX6_readMatch_85 : decode cX6_readMatch 85 = .ok (.invokevirtual 46, 3) := dq_182 (a := 0) (b := 46) (fd_r fcX6_readMatch (by decide +kernel)) rfl
theorem dX6_readMatch_88 : decode cX6_readMatch 88 = .ok (.istore 4, 2) := dq_54 (a := 4) (fd_r fcX6_readMatch (by decide +kernel))
theorem dX6_readMatch_90 : decode cX6_readMatch 90 = .ok (.goto 54, 3) := dq_167 (a := 0) (b := 54) (fd_r fcX6_readMatch (by decide +kernel)) rfl
theorem dX6_readMatch_93 : decode cX6_readMatch 93 = .ok (.aload_n 0, 1) := dq_42 (fd_r fcX6_readMatch (by decide +kernel))
theorem dX6_readMatch_94 : decode cX6_readMatch 94 = .ok (.invokevirtual 50, 3) := dq_182 (a := 0) (b := 50) (fd_r fcX6_readMatch (by decide +kernel)) rfl
theorem dX6_readMatch_97 : decode cX6_readMatch 97 = .ok (.istore 4, 2) := dq_54 (a := 4) (fd_r fcX6_readMatch (by decide +kernel))
theorem dX6_readMatch_99 : decode cX6_readMatch 99 = .ok (.goto 45, 3) := dq_167 (a := 0) (b := 45) (fd_r fcX6_readMatch (by decide +kernel)) rfl
theorem dX6_readMatch_102 : decode cX6_readMatch 102 = .ok (.aload_n 0, 1) := dq_42 (fd_r fcX6_readMatch (by decide +kernel))
theorem dX6_readMatch_103 : decode cX6_readMatch 103 = .ok (.invokevirtual 53, 3) := dq_182 (a := 0) (b := 53) (fd_r fcX6_readMatch (by decide +kernel)) rfl
theorem dX6_readMatch_106 : decode cX6_readMatch 106 = .ok (.istore 4, 2) := dq_54 (a := 4) (fd_r fcX6_readMatch (by decide +kernel))
theorem dX6_readMatch_108 : decode cX6_readMatch 108 = .ok (.goto 36, 3) := dq_167 (a := 0) (b := 36) (fd_r fcX6_readMatch (by decide +kernel)) rfl
theorem dX6_readMatch_111 : decode cX6_readMatch 111 = .ok (.aload_n 0, 1) := dq_42 (fd_r fcX6_readMatch (by decide +kernel))
theorem dX6_readMatch_112 : decode cX6_readMatch 112 = .ok (.invokevirtual 56, 3) := dq_182 (a := 0) (b := 56) (fd_r fcX6_readMatch (by decide +kernel)) rfl
theorem dX6_readMatch_115 : decode cX6_readMatch 115 = .ok (.istore 4, 2) := dq_54 (a := 4) (fd_r fcX6_readMatch (by decide +kernel))
theorem dX6_readMatch_117 : decode cX6_readMatch 117 = .ok (.goto 27, 3) := dq_167 (a := 0) (b := 27) (fd_r fcX6_readMatch (by decide +kernel)) rfl
theorem dX6_readMatch_120 : decode cX6_readMatch 120 = .ok (.aload_n 0, 1) := dq_42 (fd_r fcX6_readMatch (by decide +kernel))
theorem dX6_readMatch_121 : decode cX6_readMatch 121 = .ok (.invokevirtual 59, 3) := dq_182 (a := 0) (b := 59) (fd_r fcX6_readMatch (by decide +kernel)) rfl
theorem dX6_readMatch_124 : decode cX6_readMatch 124 = .ok (.istore 4, 2) := dq_54 (a := 4) (fd_r fcX6_readMatch (by decide +kernel))
theorem dX6_readMatch_126 : decode cX6_readMatch 126 = .ok (.goto 18, 3) := dq_167 (a := 0) (b := 18) (fd_r fcX6_readMatch (by decide +kernel)) rfl
theorem dX6_readMatch_129 : decode cX6_readMatch 129 = .ok (.aload_n 0, 1) := dq_42 (fd_r fcX6_readMatch (by decide +kernel))
theorem dX6_readMatch_130 : decode cX6_readMatch 130 = .ok (.invokevirtual 62, 3) := dq_182 (a := 0) (b := 62) (fd_r fcX6_readMatch (by decide +kernel)) rfl
theorem dX6_readMatch_133 : decode cX6_readMatch 133 = .ok (.istore 4, 2) := dq_54 (a := 4) (fd_r fcX6_readMatch (by decide +kernel))
theorem dX6_readMatch_135 : decode cX6_readMatch 135 = .ok (.goto 9, 3) := dq_167 (a := 0) (b := 9) (fd_r fcX6_readMatch (by decide +kernel)) rfl
theorem dX6_readMatch_138 : decode cX6_readMatch 138 = .ok (.aload_n 0, 1) := dq_42 (fd_r fcX6_readMatch (by decide +kernel))
theorem dX6_readMatch_139 : decode cX6_readMatch 139 = .ok (.invokevirtual 65, 3) := dq_182 (a := 0) (b := 65) (fd_r fcX6_readMatch (by decide +kernel)) rfl
theorem dX6_readMatch_142 : decode cX6_readMatch 142 = .ok (.istore 4, 2) := dq_54 (a := 4) (fd_r fcX6_readMatch (by decide +kernel))
theorem dX6_readMatch_144 : decode cX6_readMatch 144 = .ok (.iload 4, 2) := dq_21 (a := 4) (fd_r fcX6_readMatch (by decide +kernel))
theorem dX6_readMatch_146 : decode cX6_readMatch 146 = .ok (.ifCond .eq 12, 3) := dq_153 (a := 0) (b := 12) (fd_r fcX6_readMatch (by decide +kernel)) rfl
theorem dX6_readMatch_149 : decode cX6_readMatch 149 = .ok (.aload_n 0, 1) := dq_42 (fd_r fcX6_readMatch (by decide +kernel))
theorem dX6_readMatch_150 : decode cX6_readMatch 150 = .ok (.bipush 59, 2) := dq_16 (a := 59) (fd_r fcX6_readMatch (by decide +kernel)) rfl
theorem dX6_readMatch_152 : decode cX6_readMatch 152 = .ok (.invokevirtual 68, 3) := dq_182 (a := 0) (b := 68) (fd_r fcX6_readMatch (by decide +kernel)) rfl
theorem dX6_readMatch_155 : decode cX6_readMatch 155 = .ok (.ifCond .ne 5, 3) := dq_154 (a := 0) (b := 5) (fd_r fcX6_readMatch (by decide +kernel)) rfl
theorem dX6_readMatch_158 : decode cX6_readMatch 158 = .ok (.iconst (-1), 1) := dq_2 (fd_r fcX6_readMatch (by decide +kernel))
theorem dX6_readMatch_159 : decode cX6_readMatch 159 = .ok (.ireturn, 1) := dq_172 (fd_r fcX6_readMatch (by decide +kernel))
theorem dX6_readMatch_160 : decode cX6_readMatch 160 = .ok (.iinc 3 1, 3) := dq_132 (a := 3) (b := 1) (fd_r fcX6_readMatch (by decide +kernel)) rfl
theorem dX6_readMatch_163 : decode cX6_readMatch 163 = .ok (.goto (-144), 3) := dq_167 (a := 255) (b := 112) (fd_r fcX6_readMatch (by decide +kernel)) rfl
theorem dX6_readMatch_166 : decode cX6_readMatch 166 = .ok (.aload_n 0, 1) := dq_42 (fd_r fcX6_readMatch (by decide +kernel))
theorem dX6_readMatch_167 : decode cX6_readMatch 167 = .ok (.getfield 12, 3) := dq_180 (a := 0) (b := 12) (fd_r fcX6_readMatch (by decide +kernel)) rfl
theorem dX6_readMatch_170 : decode cX6_readMatch 170 = .ok (.getfield 40, 3) := dq_180 (a := 0) (b := 40) (fd_r fcX6_readMatch (by decide +kernel)) rfl
theorem dX6_readMatch_173 : decode cX6_readMatch 173 = .ok (.ifCond .eq 19, 3) := dq_153 (a := 0) (b := 19) (fd_r fcX6_readMatch (by decide +kernel)) rfl
theorem dX6_readMatch_176 : decode cX6_readMatch 176 = .ok (.aload_n 0, 1) := dq_42 (fd_r fcX6_readMatch (by decide +kernel))
theorem dX6_readMatch_177 : decode cX6_readMatch 177 = .ok (.bipush 6, 2) := dq_16 (a := 6) (fd_r fcX6_readMatch (by decide +kernel)) rfl
theorem dX6_readMatch_179 : decode cX6_readMatch 179 = .ok (.aload_n 0, 1) := dq_42 (fd_r fcX6_readMatch (by decide +kernel))
theorem dX6_readMatch_180 : decode cX6_readMatch 180 = .ok (.getfield 12, 3) := dq_180 (a := 0) (b := 12) (fd_r fcX6_readMatch (by decide +kernel)) rfl
theorem dX6_readMatch_183 : decode cX6_readMatch 183 = .ok (.getfield 72, 3) := dq_180 (a := 0) (b := 72) (fd_r fcX6_readMatch (by decide +kernel)) rfl
theorem dX6_readMatch_186 : decode cX6_readMatch 186 = .ok (.invokevirtual 75, 3) := dq_182 (a := 0) (b := 75) (fd_r fcX6_readMatch (by decide +kernel)) rfl
theorem dX6_readMatch_189 : decode cX6_readMatch 189 = .ok (.pop, 1) := dq_87 (fd_r fcX6_readMatch (by decide +kernel))
theorem dX6_readMatch_190 : decode cX6_readMatch 190 = .ok (.iconst (-1), 1) := dq_2 (fd_r fcX6_readMatch (by decide +kernel))
theorem dX6_readMatch_191 : decode cX6_readMatch 191 = .ok (.ireturn, 1) := dq_172 (fd_r fcX6_readMatch (by decide +kernel))
theorem dX6_readMatch_192 : decode cX6_readMatch 192 = .ok (.aload_n 0, 1) := dq_42 (fd_r fcX6_readMatch (by decide +kernel))
theorem dX6_readMatch_193 : decode cX6_readMatch 193 = .ok (.getfield 27, 3) := dq_180 (a := 0) (b := 27) (fd_r fcX6_readMatch (by decide +kernel)) rfl
theorem dX6_readMatch_196 : decode cX6_readMatch 196 = .ok (.getfield 79, 3) := dq_180 (a := 0) (b := 79) (fd_r fcX6_readMatch (by decide +kernel)) rfl
theorem dX6_readMatch_199 : decode cX6_readMatch 199 = .ok (.ifCond .ne 10, 3) := dq_154 (a := 0) (b := 10) (fd_r fcX6_readMatch (by decide +kernel)) rfl
theorem dX6_readMatch_202 : decode cX6_readMatch 202 = .ok (.aload_n 0, 1) := dq_42 (fd_r fcX6_readMatch (by decide +kernel))
theorem dX6_readMatch_203 : decode cX6_readMatch 203 = .ok (.invokevirtual 65, 3) := dq_182 (a := 0) (b := 65) (fd_r fcX6_readMatch (by decide +kernel)) rfl
theorem dX6_readMatch_206 : decode cX6_readMatch 206 = .ok (.pop, 1) := dq_87 (fd_r fcX6_readMatch (by decide +kernel))
theorem dX6_readMatch_207 : decode cX6_readMatch 207 = .ok (.iconst (-1), 1) := dq_2 (fd_r fcX6_readMatch (by decide +kernel))
theorem dX6_readMatch_208 : decode cX6_readMatch 208 = .ok (.ireturn, 1) := dq_172 (fd_r fcX6_readMatch (by decide +kernel))
theorem dX6_readMatch_209 : decode cX6_readMatch 209 = .ok (.iload_n 3, 1) := dq_29 (fd_r fcX6_readMatch (by decide +kernel))
theorem dX6_readMatch_210 : decode cX6_readMatch 210 = .ok (.ireturn, 1) := dq_172 (fd_r fcX6_readMatch (by decide +kernel))
theorem dX6_begin_0 : decode cX6_begin 0 = .ok (.aload_n 0, 1) := dq_42 (fd_r fcX6_begin (by decide +kernel))
theorem dX6_begin_1 : decode cX6_begin 1 = .ok (.iconst 0, 1) := dq_3 (fd_r fcX6_begin (by decide +kernel))
theorem dX6_begin_2 : decode cX6_begin 2 = .ok (.putfield 82, 3) := dq_181 (a := 0) (b := 82) (fd_r fcX6_begin (by decide +kernel)) rfl
theorem dX6_begin_5 : decode cX6_begin 5 = .ok (.aload_n 0, 1) := dq_42 (fd_r fcX6_begin (by decide +kernel))
theorem dX6_begin_6 : decode cX6_begin 6 = .ok (.iconst (-1), 1) := dq_2 (fd_r fcX6_begin (by decide +kernel))
theorem dX6_begin_7 : decode cX6_begin 7 = .ok (.putfield 23, 3) := dq_181 (a := 0) (b := 23) (fd_r fcX6_begin (by decide +kernel)) rfl
theorem dX6_begin_10 : decode cX6_begin 10 = .ok (.aload_n 0, 1) := dq_42 (fd_r fcX6_begin (by decide +kernel))
theorem dX6_begin_11 : decode cX6_begin 11 = .ok (.getfield 12, 3) := dq_180 (a := 0) (b := 12) (fd_r fcX6_begin (by decide +kernel)) rfl
theorem dX6_begin_14 : decode cX6_begin 14 = .ok (.aload_n 1, 1) := dq_43 (fd_r fcX6_begin (by decide +kernel))
theorem dX6_begin_15 : decode cX6_begin 15 = .ok (.invokevirtual 85, 3) := dq_182 (a := 0) (b := 85) (fd_r fcX6_begin (by decide +kernel)) rfl
theorem dX6_begin_18 : decode cX6_begin 18 = .ok (.return_, 1) := dq_177 (fd_r fcX6_begin (by decide +kernel))
theorem dX6_fail_0 : decode cX6_fail 0 = .ok (.aload_n 0, 1) := dq_42 (fd_r fcX6_fail (by decide +kernel))
theorem dX6_fail_1 : decode cX6_fail 1 = .ok (.iload_n 1, 1) := dq_27 (fd_r fcX6_fail (by decide +kernel))
theorem dX6_fail_2 : decode cX6_fail 2 = .ok (.putfield 82, 3) := dq_181 (a := 0) (b := 82) (fd_r fcX6_fail (by decide +kernel)) rfl
theorem dX6_fail_5 : decode cX6_fail 5 = .ok (.aload_n 0, 1) := dq_42 (fd_r fcX6_fail (by decide +kernel))
theorem dX6_fail_6 : decode cX6_fail 6 = .ok (.iload_n 2, 1) := dq_28 (fd_r fcX6_fail (by decide +kernel))
theorem dX6_fail_7 : decode cX6_fail 7 = .ok (.putfield 23, 3) := dq_181 (a := 0) (b := 23) (fd_r fcX6_fail (by decide +kernel)) rfl
theorem dX6_fail_10 : decode cX6_fail 10 = .ok (.iconst 0, 1) := dq_3 (fd_r fcX6_fail (by decide +kernel))
end
end
section
section
theorem dX6_fail_11 : decode cX6_fail 11 = .ok (.ireturn, 1) := dq_172 (fd_r fcX6_fail (by decide +kernel))
theorem dX6_failHere_0 : decode cX6_failHere 0 = .ok (.aload_n 0, 1) := dq_42 (fd_r fcX6_failHere (by decide +kernel))
theorem dX6_failHere_1 : decode cX6_failHere 1 = .ok (.iconst 1, 1) := dq_4 (fd_r fcX6_failHere (by decide +kernel))
theorem dX6_failHere_2 : decode cX6_failHere 2 = .ok (.putfield 82, 3) := dq_181 (a := 0) (b := 82) (fd_r fcX6_failHere (by decide +kernel)) rfl
theorem dX6_failHere_5 : decode cX6_failHere 5 = .ok (.aload_n 0, 1) := dq_42 (fd_r fcX6_failHere (by decide +kernel))
theorem dX6_failHere_6 : decode cX6_failHere 6 = .ok (.aload_n 0, 1) := dq_42 (fd_r fcX6_failHere (by decide +kernel))
theorem dX6_failHere_7 : decode cX6_failHere 7 = .ok (.getfield 12, 3) := dq_180 (a := 0) (b := 12) (fd_r fcX6_failHere (by decide +kernel)) rfl
theorem dX6_failHere_10 : decode cX6_failHere 10 = .ok (.getfield 40, 3) := dq_180 (a := 0) (b := 40) (fd_r fcX6_failHere (by decide +kernel)) rfl
theorem dX6_failHere_13 : decode cX6_failHere 13 = .ok (.iconst 4, 1) := dq_7 (fd_r fcX6_failHere (by decide +kernel))
theorem dX6_failHere_14 : decode cX6_failHere 14 = .ok (.if_icmp .ne 13, 3) := dq_160 (a := 0) (b := 13) (fd_r fcX6_failHere (by decide +kernel)) rfl
theorem dX6_failHere_17 : decode cX6_failHere 17 = .ok (.aload_n 0, 1) := dq_42 (fd_r fcX6_failHere (by decide +kernel))
theorem dX6_failHere_18 : decode cX6_failHere 18 = .ok (.getfield 12, 3) := dq_180 (a := 0) (b := 12) (fd_r fcX6_failHere (by decide +kernel)) rfl
theorem dX6_failHere_21 : decode cX6_failHere 21 = .ok (.getfield 86, 3) := dq_180 (a := 0) (b := 86) (fd_r fcX6_failHere (by decide +kernel)) rfl
theorem dX6_failHere_24 : decode cX6_failHere 24 = .ok (.goto 10, 3) := dq_167 (a := 0) (b := 10) (fd_r fcX6_failHere (by decide +kernel)) rfl
theorem dX6_failHere_27 : decode cX6_failHere 27 = .ok (.aload_n 0, 1) := dq_42 (fd_r fcX6_failHere (by decide +kernel))
theorem dX6_failHere_28 : decode cX6_failHere 28 = .ok (.getfield 12, 3) := dq_180 (a := 0) (b := 12) (fd_r fcX6_failHere (by decide +kernel)) rfl
theorem dX6_failHere_31 : decode cX6_failHere 31 = .ok (.getfield 72, 3) := dq_180 (a := 0) (b := 72) (fd_r fcX6_failHere (by decide +kernel)) rfl
theorem dX6_failHere_34 : decode cX6_failHere 34 = .ok (.putfield 23, 3) := dq_181 (a := 0) (b := 23) (fd_r fcX6_failHere (by decide +kernel)) rfl
theorem dX6_failHere_37 : decode cX6_failHere 37 = .ok (.iconst 0, 1) := dq_3 (fd_r fcX6_failHere (by decide +kernel))
theorem dX6_failHere_38 : decode cX6_failHere 38 = .ok (.ireturn, 1) := dq_172 (fd_r fcX6_failHere (by decide +kernel))
theorem dX6_readSign_0 : decode cX6_readSign 0 = .ok (.aload_n 0, 1) := dq_42 (fd_r fcX6_readSign (by decide +kernel))
theorem dX6_readSign_1 : decode cX6_readSign 1 = .ok (.getfield 12, 3) := dq_180 (a := 0) (b := 12) (fd_r fcX6_readSign (by decide +kernel)) rfl
theorem dX6_readSign_4 : decode cX6_readSign 4 = .ok (.iload_n 1, 1) := dq_27 (fd_r fcX6_readSign (by decide +kernel))
theorem dX6_readSign_5 : decode cX6_readSign 5 = .ok (.invokevirtual 89, 3) := dq_182 (a := 0) (b := 89) (fd_r fcX6_readSign (by decide +kernel)) rfl
theorem dX6_readSign_8 : decode cX6_readSign 8 = .ok (.ifCond .ne 8, 3) := dq_154 (a := 0) (b := 8) (fd_r fcX6_readSign (by decide +kernel)) rfl
theorem dX6_readSign_11 : decode cX6_readSign 11 = .ok (.aload_n 0, 1) := dq_42 (fd_r fcX6_readSign (by decide +kernel))
theorem dX6_readSign_12 : decode cX6_readSign 12 = .ok (.invokevirtual 65, 3) := dq_182 (a := 0) (b := 65) (fd_r fcX6_readSign (by decide +kernel)) rfl
theorem dX6_readSign_15 : decode cX6_readSign 15 = .ok (.ireturn, 1) := dq_172 (fd_r fcX6_readSign (by decide +kernel))
theorem dX6_readSign_16 : decode cX6_readSign 16 = .ok (.aload_n 0, 1) := dq_42 (fd_r fcX6_readSign (by decide +kernel))
theorem dX6_readSign_17 : decode cX6_readSign 17 = .ok (.getfield 12, 3) := dq_180 (a := 0) (b := 12) (fd_r fcX6_readSign (by decide +kernel)) rfl
theorem dX6_readSign_20 : decode cX6_readSign 20 = .ok (.invokevirtual 92, 3) := dq_182 (a := 0) (b := 92) (fd_r fcX6_readSign (by decide +kernel)) rfl
theorem dX6_readSign_23 : decode cX6_readSign 23 = .ok (.iconst 1, 1) := dq_4 (fd_r fcX6_readSign (by decide +kernel))
theorem dX6_readSign_24 : decode cX6_readSign 24 = .ok (.ireturn, 1) := dq_172 (fd_r fcX6_readSign (by decide +kernel))
theorem dX6_readNumber_0 : decode cX6_readNumber 0 = .ok (.aload_n 0, 1) := dq_42 (fd_r fcX6_readNumber (by decide +kernel))
theorem dX6_readNumber_1 : decode cX6_readNumber 1 = .ok (.getfield 12, 3) := dq_180 (a := 0) (b := 12) (fd_r fcX6_readNumber (by decide +kernel)) rfl
theorem dX6_readNumber_4 : decode cX6_readNumber 4 = .ok (.getfield 40, 3) := dq_180 (a := 0) (b := 40) (fd_r fcX6_readNumber (by decide +kernel)) rfl
theorem dX6_readNumber_7 : decode cX6_readNumber 7 = .ok (.iconst 2, 1) := dq_5 (fd_r fcX6_readNumber (by decide +kernel))
theorem dX6_readNumber_8 : decode cX6_readNumber 8 = .ok (.if_icmp .eq 10, 3) := dq_159 (a := 0) (b := 10) (fd_r fcX6_readNumber (by decide +kernel)) rfl
theorem dX6_readNumber_11 : decode cX6_readNumber 11 = .ok (.aload_n 0, 1) := dq_42 (fd_r fcX6_readNumber (by decide +kernel))
theorem dX6_readNumber_12 : decode cX6_readNumber 12 = .ok (.invokevirtual 65, 3) := dq_182 (a := 0) (b := 65) (fd_r fcX6_readNumber (by decide +kernel)) rfl
theorem dX6_readNumber_15 : decode cX6_readNumber 15 = .ok (.pop, 1) := dq_87 (fd_r fcX6_readNumber (by decide +kernel))
theorem dX6_readNumber_16 : decode cX6_readNumber 16 = .ok (.iconst (-1), 1) := dq_2 (fd_r fcX6_readNumber (by decide +kernel))
theorem dX6_readNumber_17 : decode cX6_readNumber 17 = .ok (.ireturn, 1) := dq_172 (fd_r fcX6_readNumber (by decide +kernel))
theorem dX6_readNumber_18 : decode cX6_readNumber 18 = .ok (.aload_n 0, 1) := dq_42 (fd_r fcX6_readNumber (by decide +kernel))
theorem dX6_readNumber_19 : decode cX6_readNumber 19 = .ok (.getfield 12, 3) := dq_180 (a := 0) (b := 12) (fd_r fcX6_readNumber (by decide +kernel)) rfl
theorem dX6_readNumber_22 : decode cX6_readNumber 22 = .ok (.getfield 95, 3) := dq_180 (a := 0) (b := 95) (fd_r fcX6_readNumber (by decide +kernel)) rfl
theorem dX6_readNumber_25 : decode cX6_readNumber 25 = .ok (.istore_n 3, 1) := dq_62 (fd_r fcX6_readNumber (by decide +kernel))
theorem dX6_readNumber_26 : decode cX6_readNumber 26 = .ok (.iload_n 3, 1) := dq_29 (fd_r fcX6_readNumber (by decide +kernel))
theorem dX6_readNumber_27 : decode cX6_readNumber 27 = .ok (.iload_n 1, 1) := dq_27 (fd_r fcX6_readNumber (by decide +kernel))
theorem dX6_readNumber_28 : decode cX6_readNumber 28 = .ok (.if_icmp .lt 8, 3) := dq_161 (a := 0) (b := 8) (fd_r fcX6_readNumber (by decide +kernel)) rfl
theorem dX6_readNumber_31 : decode cX6_readNumber 31 = .ok (.iload_n 3, 1) := dq_29 (fd_r fcX6_readNumber (by decide +kernel))
theorem dX6_readNumber_32 : decode cX6_readNumber 32 = .ok (.iload_n 2, 1) := dq_28 (fd_r fcX6_readNumber (by decide +kernel))
theorem dX6_readNumber_33 : decode cX6_readNumber 33 = .ok (.if_icmp .le 18, 3) := dq_164 (a := 0) (b := 18) (fd_r fcX6_readNumber (by decide +kernel)) rfl
theorem dX6_readNumber_36 : decode cX6_readNumber 36 = .ok (.aload_n 0, 1) := dq_42 (fd_r fcX6_readNumber (by decide +kernel))
theorem dX6_readNumber_37 : decode cX6_readNumber 37 = .ok (.iconst 4, 1) := dq_7 (fd_r fcX6_readNumber (by decide +kernel))
theorem dX6_readNumber_38 : decode cX6_readNumber 38 = .ok (.aload_n 0, 1) := dq_42 (fd_r fcX6_readNumber (by decide +kernel))
theorem dX6_readNumber_39 : decode cX6_readNumber 39 = .ok (.getfield 12, 3) := dq_180 (a := 0) (b := 12) (fd_r fcX6_readNumber (by decide +kernel)) rfl
theorem dX6_readNumber_42 : decode cX6_readNumber 42 = .ok (.getfield 72, 3) := dq_180 (a := 0) (b := 72) (fd_r fcX6_readNumber (by decide +kernel)) rfl
theorem dX6_readNumber_45 : decode cX6_readNumber 45 = .ok (.invokevirtual 75, 3) := dq_182 (a := 0) (b := 75) (fd_r fcX6_readNumber (by decide +kernel)) rfl
theorem dX6_readNumber_48 : decode cX6_readNumber 48 = .ok (.pop, 1) := dq_87 (fd_r fcX6_readNumber (by decide +kernel))
theorem dX6_readNumber_49 : decode cX6_readNumber 49 = .ok (.iconst (-1), 1) := dq_2 (fd_r fcX6_readNumber (by decide +kernel))
theorem dX6_readNumber_50 : decode cX6_readNumber 50 = .ok (.ireturn, 1) := dq_172 (fd_r fcX6_readNumber (by decide +kernel))
theorem dX6_readNumber_51 : decode cX6_readNumber 51 = .ok (.aload_n 0, 1) := dq_42 (fd_r fcX6_readNumber (by decide +kernel))
theorem dX6_readNumber_52 : decode cX6_readNumber 52 = .ok (.getfield 12, 3) := dq_180 (a := 0) (b := 12) (fd_r fcX6_readNumber (by decide +kernel)) rfl
theorem dX6_readNumber_55 : decode cX6_readNumber 55 = .ok (.invokevirtual 92, 3) := dq_182 (a := 0) (b := 92) (fd_r fcX6_readNumber (by decide +kernel)) rfl
theorem dX6_readNumber_58 : decode cX6_readNumber 58 = .ok (.iload_n 3, 1) := dq_29 (fd_r fcX6_readNumber (by decide +kernel))
theorem dX6_readNumber_59 : decode cX6_readNumber 59 = .ok (.ireturn, 1) := dq_172 (fd_r fcX6_readNumber (by decide +kernel))
theorem dX6_readRule_0 : decode cX6_readRule 0 = .ok (.aload_n 0, 1) := dq_42 (fd_r fcX6_readRule (by decide +kernel))
theorem dX6_readRule_1 : decode cX6_readRule 1 = .ok (.getfield 12, 3) := dq_180 (a := 0) (b := 12) (fd_r fcX6_readRule (by decide +kernel)) rfl
theorem dX6_readRule_4 : decode cX6_readRule 4 = .ok (.invokevirtual 92, 3) := dq_182 (a := 0) (b := 92) (fd_r fcX6_readRule (by decide +kernel)) rfl
theorem dX6_readRule_7 : decode cX6_readRule 7 = .ok (.aload_n 0, 1) := dq_42 (fd_r fcX6_readRule (by decide +kernel))
theorem dX6_readRule_8 : decode cX6_readRule 8 = .ok (.getfield 27, 3) := dq_180 (a := 0) (b := 27) (fd_r fcX6_readRule (by decide +kernel)) rfl
theorem dX6_readRule_11 : decode cX6_readRule 11 = .ok (.aload_n 0, 1) := dq_42 (fd_r fcX6_readRule (by decide +kernel))
theorem dX6_readRule_12 : decode cX6_readRule 12 = .ok (.iconst 0, 1) := dq_3 (fd_r fcX6_readRule (by decide +kernel))
theorem dX6_readRule_13 : decode cX6_readRule 13 = .ok (.iconst 3, 1) := dq_6 (fd_r fcX6_readRule (by decide +kernel))
theorem dX6_readRule_14 : decode cX6_readRule 14 = .ok (.invokevirtual 98, 3) := dq_182 (a := 0) (b := 98) (fd_r fcX6_readRule (by decide +kernel)) rfl
theorem dX6_readRule_17 : decode cX6_readRule 17 = .ok (.putfield 102, 3) := dq_181 (a := 0) (b := 102) (fd_r fcX6_readRule (by decide +kernel)) rfl
theorem dX6_readRule_20 : decode cX6_readRule 20 = .ok (.aload_n 0, 1) := dq_42 (fd_r fcX6_readRule (by decide +kernel))
theorem dX6_readRule_21 : decode cX6_readRule 21 = .ok (.getfield 27, 3) := dq_180 (a := 0) (b := 27) (fd_r fcX6_readRule (by decide +kernel)) rfl
theorem dX6_readRule_24 : decode cX6_readRule 24 = .ok (.getfield 102, 3) := dq_180 (a := 0) (b := 102) (fd_r fcX6_readRule (by decide +kernel)) rfl
theorem dX6_readRule_27 : decode cX6_readRule 27 = .ok (.iconst (-1), 1) := dq_2 (fd_r fcX6_readRule (by decide +kernel))
theorem dX6_readRule_28 : decode cX6_readRule 28 = .ok (.if_icmp .eq 7, 3) := dq_159 (a := 0) (b := 7) (fd_r fcX6_readRule (by decide +kernel)) rfl
theorem dX6_readRule_31 : decode cX6_readRule 31 = .ok (.iconst 1, 1) := dq_4 (fd_r fcX6_readRule (by decide +kernel))
theorem dX6_readRule_32 : decode cX6_readRule 32 = .ok (.goto 4, 3) := dq_167 (a := 0) (b := 4) (fd_r fcX6_readRule (by decide +kernel)) rfl
theorem dX6_readRule_35 : decode cX6_readRule 35 = .ok (.iconst 0, 1) := dq_3 (fd_r fcX6_readRule (by decide +kernel))
theorem dX6_readRule_36 : decode cX6_readRule 36 = .ok (.ireturn, 1) := dq_172 (fd_r fcX6_readRule (by decide +kernel))
theorem dX6_readBudget_0 : decode cX6_readBudget 0 = .ok (.aload_n 0, 1) := dq_42 (fd_r fcX6_readBudget (by decide +kernel))
theorem dX6_readBudget_1 : decode cX6_readBudget 1 = .ok (.getfield 12, 3) := dq_180 (a := 0) (b := 12) (fd_r fcX6_readBudget (by decide +kernel)) rfl
theorem dX6_readBudget_4 : decode cX6_readBudget 4 = .ok (.invokevirtual 92, 3) := dq_182 (a := 0) (b := 92) (fd_r fcX6_readBudget (by decide +kernel)) rfl
theorem dX6_readBudget_7 : decode cX6_readBudget 7 = .ok (.aload_n 0, 1) := dq_42 (fd_r fcX6_readBudget (by decide +kernel))
theorem dX6_readBudget_8 : decode cX6_readBudget 8 = .ok (.getfield 27, 3) := dq_180 (a := 0) (b := 27) (fd_r fcX6_readBudget (by decide +kernel)) rfl
theorem dX6_readBudget_11 : decode cX6_readBudget 11 = .ok (.aload_n 0, 1) := dq_42 (fd_r fcX6_readBudget (by decide +kernel))
theorem dX6_readBudget_12 : decode cX6_readBudget 12 = .ok (.iconst 1, 1) := dq_4 (fd_r fcX6_readBudget (by decide +kernel))
theorem dX6_readBudget_13 : decode cX6_readBudget 13 = .ok (.sipush 999, 3) := dq_17 (a := 3) (b := 231) (fd_r fcX6_readBudget (by decide +kernel)) rfl
theorem dX6_readBudget_16 : decode cX6_readBudget 16 = .ok (.invokevirtual 98, 3) := dq_182 (a := 0) (b := 98) (fd_r fcX6_readBudget (by decide +kernel)) rfl
theorem dX6_readBudget_19 : decode cX6_readBudget 19 = .ok (.putfield 105, 3) := dq_181 (a := 0) (b := 105) (fd_r fcX6_readBudget (by decide +kernel)) rfl
theorem dX6_readBudget_22 : decode cX6_readBudget 22 = .ok (.aload_n 0, 1) := dq_42 (fd_r fcX6_readBudget (by decide +kernel))
theorem dX6_readBudget_23 : decode cX6_readBudget 23 = .ok (.getfield 27, 3) := dq_180 (a := 0) (b := 27) (fd_r fcX6_readBudget (by decide +kernel)) rfl
theorem dX6_readBudget_26 : decode cX6_readBudget 26 = .ok (.getfield 105, 3) := dq_180 (a := 0) (b := 105) (fd_r fcX6_readBudget (by decide +kernel)) rfl
theorem dX6_readBudget_29 : decode cX6_readBudget 29 = .ok (.iconst (-1), 1) := dq_2 (fd_r fcX6_readBudget (by decide +kernel))
theorem dX6_readBudget_30 : decode cX6_readBudget 30 = .ok (.if_icmp .eq 7, 3) := dq_159 (a := 0) (b := 7) (fd_r fcX6_readBudget (by decide +kernel)) rfl
theorem dX6_readBudget_33 : decode cX6_readBudget 33 = .ok (.iconst 1, 1) := dq_4 (fd_r fcX6_readBudget (by decide +kernel))
theorem dX6_readBudget_34 : decode cX6_readBudget 34 = .ok (.goto 4, 3) := dq_167 (a := 0) (b := 4) (fd_r fcX6_readBudget (by decide +kernel)) rfl
theorem dX6_readBudget_37 : decode cX6_readBudget 37 = .ok (.iconst 0, 1) := dq_3 (fd_r fcX6_readBudget (by decide +kernel))
theorem dX6_readBudget_38 : decode cX6_readBudget 38 = .ok (.ireturn, 1) := dq_172 (fd_r fcX6_readBudget (by decide +kernel))
theorem dX6_readKind_0 : decode cX6_readKind 0 = .ok (.aload_n 0, 1) := dq_42 (fd_r fcX6_readKind (by decide +kernel))
theorem dX6_readKind_1 : decode cX6_readKind 1 = .ok (.getfield 27, 3) := dq_180 (a := 0) (b := 27) (fd_r fcX6_readKind (by decide +kernel)) rfl
theorem dX6_readKind_4 : decode cX6_readKind 4 = .ok (.getfield 79, 3) := dq_180 (a := 0) (b := 79) (fd_r fcX6_readKind (by decide +kernel)) rfl
theorem dX6_readKind_7 : decode cX6_readKind 7 = .ok (.ifCond .le 8, 3) := dq_158 (a := 0) (b := 8) (fd_r fcX6_readKind (by decide +kernel)) rfl
theorem dX6_readKind_10 : decode cX6_readKind 10 = .ok (.aload_n 0, 1) := dq_42 (fd_r fcX6_readKind (by decide +kernel))
theorem dX6_readKind_11 : decode cX6_readKind 11 = .ok (.invokevirtual 65, 3) := dq_182 (a := 0) (b := 65) (fd_r fcX6_readKind (by decide +kernel)) rfl
theorem dX6_readKind_14 : decode cX6_readKind 14 = .ok (.ireturn, 1) := dq_172 (fd_r fcX6_readKind (by decide +kernel))
theorem dX6_readKind_15 : decode cX6_readKind 15 = .ok (.aload_n 0, 1) := dq_42 (fd_r fcX6_readKind (by decide +kernel))
theorem dX6_readKind_16 : decode cX6_readKind 16 = .ok (.getfield 27, 3) := dq_180 (a := 0) (b := 27) (fd_r fcX6_readKind (by decide +kernel)) rfl
theorem dX6_readKind_19 : decode cX6_readKind 19 = .ok (.getfield 108, 3) := dq_180 (a := 0) (b := 108) (fd_r fcX6_readKind (by decide +kernel)) rfl
theorem dX6_readKind_22 : decode cX6_readKind 22 = .ok (.getfield 112, 3) := dq_180 (a := 0) (b := 112) (fd_r fcX6_readKind (by decide +kernel)) rfl
theorem dX6_readKind_25 : decode cX6_readKind 25 = .ok (.iconst 4, 1) := dq_7 (fd_r fcX6_readKind (by decide +kernel))
theorem dX6_readKind_26 : decode cX6_readKind 26 = .ok (.if_icmp .lt 17, 3) := dq_161 (a := 0) (b := 17) (fd_r fcX6_readKind (by decide +kernel)) rfl
theorem dX6_readKind_29 : decode cX6_readKind 29 = .ok (.aload_n 0, 1) := dq_42 (fd_r fcX6_readKind (by decide +kernel))
theorem dX6_readKind_30 : decode cX6_readKind 30 = .ok (.bipush 6, 2) := dq_16 (a := 6) (fd_r fcX6_readKind (by decide +kernel)) rfl
theorem dX6_readKind_32 : decode cX6_readKind 32 = .ok (.aload_n 0, 1) := dq_42 (fd_r fcX6_readKind (by decide +kernel))
theorem dX6_readKind_33 : decode cX6_readKind 33 = .ok (.getfield 12, 3) := dq_180 (a := 0) (b := 12) (fd_r fcX6_readKind (by decide +kernel)) rfl
theorem dX6_readKind_36 : decode cX6_readKind 36 = .ok (.getfield 72, 3) := dq_180 (a := 0) (b := 72) (fd_r fcX6_readKind (by decide +kernel)) rfl
theorem dX6_readKind_39 : decode cX6_readKind 39 = .ok (.invokevirtual 75, 3) := dq_182 (a := 0) (b := 75) (fd_r fcX6_readKind (by decide +kernel)) rfl
theorem dX6_readKind_42 : decode cX6_readKind 42 = .ok (.ireturn, 1) := dq_172 (fd_r fcX6_readKind (by decide +kernel))
theorem dX6_readKind_43 : decode cX6_readKind 43 = .ok (.aload_n 0, 1) := dq_42 (fd_r fcX6_readKind (by decide +kernel))
theorem dX6_readKind_44 : decode cX6_readKind 44 = .ok (.getfield 12, 3) := dq_180 (a := 0) (b := 12) (fd_r fcX6_readKind (by decide +kernel)) rfl
theorem dX6_readKind_47 : decode cX6_readKind 47 = .ok (.invokevirtual 92, 3) := dq_182 (a := 0) (b := 92) (fd_r fcX6_readKind (by decide +kernel)) rfl
theorem dX6_readKind_50 : decode cX6_readKind 50 = .ok (.aload_n 0, 1) := dq_42 (fd_r fcX6_readKind (by decide +kernel))
theorem dX6_readKind_51 : decode cX6_readKind 51 = .ok (.invokevirtual 116, 3) := dq_182 (a := 0) (b := 116) (fd_r fcX6_readKind (by decide +kernel)) rfl
theorem dX6_readKind_54 : decode cX6_readKind 54 = .ok (.ifCond .ne 5, 3) := dq_154 (a := 0) (b := 5) (fd_r fcX6_readKind (by decide +kernel)) rfl
theorem dX6_readKind_57 : decode cX6_readKind 57 = .ok (.iconst 0, 1) := dq_3 (fd_r fcX6_readKind (by decide +kernel))
theorem dX6_readKind_58 : decode cX6_readKind 58 = .ok (.ireturn, 1) := dq_172 (fd_r fcX6_readKind (by decide +kernel))
theorem dX6_readKind_59 : decode cX6_readKind 59 = .ok (.aload_n 0, 1) := dq_42 (fd_r fcX6_readKind (by decide +kernel))
theorem dX6_readKind_60 : decode cX6_readKind 60 = .ok (.getfield 27, 3) := dq_180 (a := 0) (b := 27) (fd_r fcX6_readKind (by decide +kernel)) rfl
theorem dX6_readKind_63 : decode cX6_readKind 63 = .ok (.getfield 108, 3) := dq_180 (a := 0) (b := 108) (fd_r fcX6_readKind (by decide +kernel)) rfl
theorem dX6_readKind_66 : decode cX6_readKind 66 = .ok (.aload_n 0, 1) := dq_42 (fd_r fcX6_readKind (by decide +kernel))
theorem dX6_readKind_67 : decode cX6_readKind 67 = .ok (.getfield 12, 3) := dq_180 (a := 0) (b := 12) (fd_r fcX6_readKind (by decide +kernel)) rfl
theorem dX6_readKind_70 : decode cX6_readKind 70 = .ok (.getfield 95, 3) := dq_180 (a := 0) (b := 95) (fd_r fcX6_readKind (by decide +kernel)) rfl
theorem dX6_readKind_73 : decode cX6_readKind 73 = .ok (.invokevirtual 119, 3) := dq_182 (a := 0) (b := 119) (fd_r fcX6_readKind (by decide +kernel)) rfl
theorem dX6_readKind_76 : decode cX6_readKind 76 = .ok (.aload_n 0, 1) := dq_42 (fd_r fcX6_readKind (by decide +kernel))
theorem dX6_readKind_77 : decode cX6_readKind 77 = .ok (.getfield 12, 3) := dq_180 (a := 0) (b := 12) (fd_r fcX6_readKind (by decide +kernel)) rfl
theorem dX6_readKind_80 : decode cX6_readKind 80 = .ok (.invokevirtual 92, 3) := dq_182 (a := 0) (b := 92) (fd_r fcX6_readKind (by decide +kernel)) rfl
theorem dX6_readKind_83 : decode cX6_readKind 83 = .ok (.iconst 1, 1) := dq_4 (fd_r fcX6_readKind (by decide +kernel))
theorem dX6_readKind_84 : decode cX6_readKind 84 = .ok (.ireturn, 1) := dq_172 (fd_r fcX6_readKind (by decide +kernel))
theorem dX6_isNewName_0 : decode cX6_isNewName 0 = .ok (.aload_n 0, 1) := dq_42 (fd_r fcX6_isNewName (by decide +kernel))
theorem dX6_isNewName_1 : decode cX6_isNewName 1 = .ok (.getfield 12, 3) := dq_180 (a := 0) (b := 12) (fd_r fcX6_isNewName (by decide +kernel)) rfl
theorem dX6_isNewName_4 : decode cX6_isNewName 4 = .ok (.invokevirtual 123, 3) := dq_182 (a := 0) (b := 123) (fd_r fcX6_isNewName (by decide +kernel)) rfl
theorem dX6_isNewName_7 : decode cX6_isNewName 7 = .ok (.ifCond .ne 8, 3) := dq_154 (a := 0) (b := 8) (fd_r fcX6_isNewName (by decide +kernel)) rfl
theorem dX6_isNewName_10 : decode cX6_isNewName 10 = .ok (.aload_n 0, 1) := dq_42 (fd_r fcX6_isNewName (by decide +kernel))
theorem dX6_isNewName_11 : decode cX6_isNewName 11 = .ok (.invokevirtual 65, 3) := dq_182 (a := 0) (b := 65) (fd_r fcX6_isNewName (by decide +kernel)) rfl
theorem dX6_isNewName_14 : decode cX6_isNewName 14 = .ok (.ireturn, 1) := dq_172 (fd_r fcX6_isNewName (by decide +kernel))
theorem dX6_isNewName_15 : decode cX6_isNewName 15 = .ok (.aload_n 0, 1) := dq_42 (fd_r fcX6_isNewName (by decide +kernel))
theorem dX6_isNewName_16 : decode cX6_isNewName 16 = .ok (.getfield 27, 3) := dq_180 (a := 0) (b := 27) (fd_r fcX6_isNewName (by decide +kernel)) rfl
theorem dX6_isNewName_19 : decode cX6_isNewName 19 = .ok (.getfield 108, 3) := dq_180 (a := 0) (b := 108) (fd_r fcX6_isNewName (by decide +kernel)) rfl
theorem dX6_isNewName_22 : decode cX6_isNewName 22 = .ok (.astore_n 1, 1) := dq_76 (fd_r fcX6_isNewName (by decide +kernel))
theorem dX6_isNewName_23 : decode cX6_isNewName 23 = .ok (.aload_n 1, 1) := dq_43 (fd_r fcX6_isNewName (by decide +kernel))
theorem dX6_isNewName_24 : decode cX6_isNewName 24 = .ok (.aload_n 0, 1) := dq_42 (fd_r fcX6_isNewName (by decide +kernel))
theorem dX6_isNewName_25 : decode cX6_isNewName 25 = .ok (.getfield 12, 3) := dq_180 (a := 0) (b := 12) (fd_r fcX6_isNewName (by decide +kernel)) rfl
theorem dX6_isNewName_28 : decode cX6_isNewName 28 = .ok (.getfield 95, 3) := dq_180 (a := 0) (b := 95) (fd_r fcX6_isNewName (by decide +kernel)) rfl
theorem dX6_isNewName_31 : decode cX6_isNewName 31 = .ok (.invokevirtual 126, 3) := dq_182 (a := 0) (b := 126) (fd_r fcX6_isNewName (by decide +kernel)) rfl
theorem dX6_isNewName_34 : decode cX6_isNewName 34 = .ok (.iconst (-1), 1) := dq_2 (fd_r fcX6_isNewName (by decide +kernel))
theorem dX6_isNewName_35 : decode cX6_isNewName 35 = .ok (.if_icmp .ne 18, 3) := dq_160 (a := 0) (b := 18) (fd_r fcX6_isNewName (by decide +kernel)) rfl
theorem dX6_isNewName_38 : decode cX6_isNewName 38 = .ok (.aload_n 1, 1) := dq_43 (fd_r fcX6_isNewName (by decide +kernel))
theorem dX6_isNewName_39 : decode cX6_isNewName 39 = .ok (.aload_n 0, 1) := dq_42 (fd_r fcX6_isNewName (by decide +kernel))
theorem dX6_isNewName_40 : decode cX6_isNewName 40 = .ok (.getfield 12, 3) := dq_180 (a := 0) (b := 12) (fd_r fcX6_isNewName (by decide +kernel)) rfl
theorem dX6_isNewName_43 : decode cX6_isNewName 43 = .ok (.getfield 95, 3) := dq_180 (a := 0) (b := 95) (fd_r fcX6_isNewName (by decide +kernel)) rfl
theorem dX6_isNewName_46 : decode cX6_isNewName 46 = .ok (.invokevirtual 130, 3) := dq_182 (a := 0) (b := 130) (fd_r fcX6_isNewName (by decide +kernel)) rfl
theorem dX6_isNewName_49 : decode cX6_isNewName 49 = .ok (.iconst (-1), 1) := dq_2 (fd_r fcX6_isNewName (by decide +kernel))
theorem dX6_isNewName_50 : decode cX6_isNewName 50 = .ok (.if_icmp .eq 16, 3) := dq_159 (a := 0) (b := 16) (fd_r fcX6_isNewName (by decide +kernel)) rfl
theorem dX6_isNewName_53 : decode cX6_isNewName 53 = .ok (.aload_n 0, 1) := dq_42 (fd_r fcX6_isNewName (by decide +kernel))
theorem dX6_isNewName_54 : decode cX6_isNewName 54 = .ok (.iconst 2, 1) := dq_5 (fd_r fcX6_isNewName (by decide +kernel))
theorem dX6_isNewName_55 : decode cX6_isNewName 55 = .ok (.aload_n 0, 1) := dq_42 (fd_r fcX6_isNewName (by decide +kernel))
theorem dX6_isNewName_56 : decode cX6_isNewName 56 = .ok (.getfield 12, 3) := dq_180 (a := 0) (b := 12) (fd_r fcX6_isNewName (by decide +kernel)) rfl
theorem dX6_isNewName_59 : decode cX6_isNewName 59 = .ok (.getfield 72, 3) := dq_180 (a := 0) (b := 72) (fd_r fcX6_isNewName (by decide +kernel)) rfl
theorem dX6_isNewName_62 : decode cX6_isNewName 62 = .ok (.invokevirtual 75, 3) := dq_182 (a := 0) (b := 75) (fd_r fcX6_isNewName (by decide +kernel)) rfl
theorem dX6_isNewName_65 : decode cX6_isNewName 65 = .ok (.ireturn, 1) := dq_172 (fd_r fcX6_isNewName (by decide +kernel))
theorem dX6_isNewName_66 : decode cX6_isNewName 66 = .ok (.iconst 1, 1) := dq_4 (fd_r fcX6_isNewName (by decide +kernel))
theorem dX6_isNewName_67 : decode cX6_isNewName 67 = .ok (.ireturn, 1) := dq_172 (fd_r fcX6_isNewName (by decide +kernel))
theorem dX6_readCon_0 : decode cX6_readCon 0 = .ok (.aload_n 0, 1) := dq_42 (fd_r fcX6_readCon (by decide +kernel))
theorem dX6_readCon_1 : decode cX6_readCon 1 = .ok (.getfield 27, 3) := dq_180 (a := 0) (b := 27) (fd_r fcX6_readCon (by decide +kernel)) rfl
theorem dX6_readCon_4 : decode cX6_readCon 4 = .ok (.getfield 108, 3) := dq_180 (a := 0) (b := 108) (fd_r fcX6_readCon (by decide +kernel)) rfl
theorem dX6_readCon_7 : decode cX6_readCon 7 = .ok (.astore_n 1, 1) := dq_76 (fd_r fcX6_readCon (by decide +kernel))
theorem dX6_readCon_8 : decode cX6_readCon 8 = .ok (.aload_n 1, 1) := dq_43 (fd_r fcX6_readCon (by decide +kernel))
theorem dX6_readCon_9 : decode cX6_readCon 9 = .ok (.getfield 112, 3) := dq_180 (a := 0) (b := 112) (fd_r fcX6_readCon (by decide +kernel)) rfl
theorem dX6_readCon_12 : decode cX6_readCon 12 = .ok (.iconst 1, 1) := dq_4 (fd_r fcX6_readCon (by decide +kernel))
theorem dX6_readCon_13 : decode cX6_readCon 13 = .ok (.isub, 1) := dq_100 (fd_r fcX6_readCon (by decide +kernel))
theorem dX6_readCon_14 : decode cX6_readCon 14 = .ok (.istore_n 2, 1) := dq_61 (fd_r fcX6_readCon (by decide +kernel))
theorem dX6_readCon_15 : decode cX6_readCon 15 = .ok (.aload_n 0, 1) := dq_42 (fd_r fcX6_readCon (by decide +kernel))
theorem dX6_readCon_16 : decode cX6_readCon 16 = .ok (.getfield 27, 3) := dq_180 (a := 0) (b := 27) (fd_r fcX6_readCon (by decide +kernel)) rfl
theorem dX6_readCon_19 : decode cX6_readCon 19 = .ok (.getfield 79, 3) := dq_180 (a := 0) (b := 79) (fd_r fcX6_readCon (by decide +kernel)) rfl
theorem dX6_readCon_22 : decode cX6_readCon 22 = .ok (.ifCond .gt 7, 3) := dq_157 (a := 0) (b := 7) (fd_r fcX6_readCon (by decide +kernel)) rfl
theorem dX6_readCon_25 : decode cX6_readCon 25 = .ok (.iload_n 2, 1) := dq_28 (fd_r fcX6_readCon (by decide +kernel))
theorem dX6_readCon_26 : decode cX6_readCon 26 = .ok (.ifCond .ge 8, 3) := dq_156 (a := 0) (b := 8) (fd_r fcX6_readCon (by decide +kernel)) rfl
theorem dX6_readCon_29 : decode cX6_readCon 29 = .ok (.aload_n 0, 1) := dq_42 (fd_r fcX6_readCon (by decide +kernel))
theorem dX6_readCon_30 : decode cX6_readCon 30 = .ok (.invokevirtual 65, 3) := dq_182 (a := 0) (b := 65) (fd_r fcX6_readCon (by decide +kernel)) rfl
theorem dX6_readCon_33 : decode cX6_readCon 33 = .ok (.ireturn, 1) := dq_172 (fd_r fcX6_readCon (by decide +kernel))
theorem dX6_readCon_34 : decode cX6_readCon 34 = .ok (.aload_n 1, 1) := dq_43 (fd_r fcX6_readCon (by decide +kernel))
theorem dX6_readCon_35 : decode cX6_readCon 35 = .ok (.iload_n 2, 1) := dq_28 (fd_r fcX6_readCon (by decide +kernel))
theorem dX6_readCon_36 : decode cX6_readCon 36 = .ok (.invokevirtual 133, 3) := dq_182 (a := 0) (b := 133) (fd_r fcX6_readCon (by decide +kernel)) rfl
theorem dX6_readCon_39 : decode cX6_readCon 39 = .ok (.bipush 6, 2) := dq_16 (a := 6) (fd_r fcX6_readCon (by decide +kernel)) rfl
theorem dX6_readCon_41 : decode cX6_readCon 41 = .ok (.if_icmp .lt 17, 3) := dq_161 (a := 0) (b := 17) (fd_r fcX6_readCon (by decide +kernel)) rfl
theorem dX6_readCon_44 : decode cX6_readCon 44 = .ok (.aload_n 0, 1) := dq_42 (fd_r fcX6_readCon (by decide +kernel))
theorem dX6_readCon_45 : decode cX6_readCon 45 = .ok (.bipush 6, 2) := dq_16 (a := 6) (fd_r fcX6_readCon (by decide +kernel)) rfl
theorem dX6_readCon_47 : decode cX6_readCon 47 = .ok (.aload_n 0, 1) := dq_42 (fd_r fcX6_readCon (by decide +kernel))
theorem dX6_readCon_48 : decode cX6_readCon 48 = .ok (.getfield 12, 3) := dq_180 (a := 0) (b := 12) (fd_r fcX6_readCon (by decide +kernel)) rfl
theorem dX6_readCon_51 : decode cX6_readCon 51 = .ok (.getfield 72, 3) := dq_180 (a := 0) (b := 72) (fd_r fcX6_readCon (by decide +kernel)) rfl
theorem dX6_readCon_54 : decode cX6_readCon 54 = .ok (.invokevirtual 75, 3) := dq_182 (a := 0) (b := 75) (fd_r fcX6_readCon (by decide +kernel)) rfl
theorem dX6_readCon_57 : decode cX6_readCon 57 = .ok (.ireturn, 1) := dq_172 (fd_r fcX6_readCon (by decide +kernel))
theorem dX6_readCon_58 : decode cX6_readCon 58 = .ok (.aload_n 0, 1) := dq_42 (fd_r fcX6_readCon (by decide +kernel))
theorem dX6_readCon_59 : decode cX6_readCon 59 = .ok (.getfield 12, 3) := dq_180 (a := 0) (b := 12) (fd_r fcX6_readCon (by decide +kernel)) rfl
theorem dX6_readCon_62 : decode cX6_readCon 62 = .ok (.invokevirtual 92, 3) := dq_182 (a := 0) (b := 92) (fd_r fcX6_readCon (by decide +kernel)) rfl
theorem dX6_readCon_65 : decode cX6_readCon 65 = .ok (.aload_n 0, 1) := dq_42 (fd_r fcX6_readCon (by decide +kernel))
theorem dX6_readCon_66 : decode cX6_readCon 66 = .ok (.invokevirtual 116, 3) := dq_182 (a := 0) (b := 116) (fd_r fcX6_readCon (by decide +kernel)) rfl
theorem dX6_readCon_69 : decode cX6_readCon 69 = .ok (.ifCond .ne 5, 3) := dq_154 (a := 0) (b := 5) (fd_r fcX6_readCon (by decide +kernel)) rfl
theorem dX6_readCon_72 : decode cX6_readCon 72 = .ok (.iconst 0, 1) := dq_3 (fd_r fcX6_readCon (by decide +kernel))
theorem dX6_readCon_73 : decode cX6_readCon 73 = .ok (.ireturn, 1) := dq_172 (fd_r fcX6_readCon (by decide +kernel))
theorem dX6_readCon_74 : decode cX6_readCon 74 = .ok (.aload_n 0, 1) := dq_42 (fd_r fcX6_readCon (by decide +kernel))
theorem dX6_readCon_75 : decode cX6_readCon 75 = .ok (.getfield 12, 3) := dq_180 (a := 0) (b := 12) (fd_r fcX6_readCon (by decide +kernel)) rfl
theorem dX6_readCon_78 : decode cX6_readCon 78 = .ok (.getfield 95, 3) := dq_180 (a := 0) (b := 95) (fd_r fcX6_readCon (by decide +kernel)) rfl
theorem dX6_readCon_81 : decode cX6_readCon 81 = .ok (.istore_n 3, 1) := dq_62 (fd_r fcX6_readCon (by decide +kernel))
theorem dX6_readCon_82 : decode cX6_readCon 82 = .ok (.iconst 0, 1) := dq_3 (fd_r fcX6_readCon (by decide +kernel))
theorem dX6_readCon_83 : decode cX6_readCon 83 = .ok (.istore 4, 2) := dq_54 (a := 4) (fd_r fcX6_readCon (by decide +kernel))
theorem dX6_readCon_85 : decode cX6_readCon 85 = .ok (.iconst (-1), 1) := dq_2 (fd_r fcX6_readCon (by decide +kernel))
theorem dX6_readCon_86 : decode cX6_readCon 86 = .ok (.istore 5, 2) := dq_54 (a := 5) (fd_r fcX6_readCon (by decide +kernel))
theorem dX6_readCon_88 : decode cX6_readCon 88 = .ok (.iconst (-1), 1) := dq_2 (fd_r fcX6_readCon (by decide +kernel))
theorem dX6_readCon_89 : decode cX6_readCon 89 = .ok (.istore 6, 2) := dq_54 (a := 6) (fd_r fcX6_readCon (by decide +kernel))
theorem dX6_readCon_91 : decode cX6_readCon 91 = .ok (.iconst 1, 1) := dq_4 (fd_r fcX6_readCon (by decide +kernel))
theorem dX6_readCon_92 : decode cX6_readCon 92 = .ok (.istore 7, 2) := dq_54 (a := 7) (fd_r fcX6_readCon (by decide +kernel))
theorem dX6_readCon_94 : decode cX6_readCon 94 = .ok (.aload_n 0, 1) := dq_42 (fd_r fcX6_readCon (by decide +kernel))
theorem dX6_readCon_95 : decode cX6_readCon 95 = .ok (.getfield 12, 3) := dq_180 (a := 0) (b := 12) (fd_r fcX6_readCon (by decide +kernel)) rfl
theorem dX6_readCon_98 : decode cX6_readCon 98 = .ok (.invokevirtual 92, 3) := dq_182 (a := 0) (b := 92) (fd_r fcX6_readCon (by decide +kernel)) rfl
theorem dX6_readCon_101 : decode cX6_readCon 101 = .ok (.aload_n 0, 1) := dq_42 (fd_r fcX6_readCon (by decide +kernel))
theorem dX6_readCon_102 : decode cX6_readCon 102 = .ok (.invokevirtual 136, 3) := dq_182 (a := 0) (b := 136) (fd_r fcX6_readCon (by decide +kernel)) rfl
theorem dX6_readCon_105 : decode cX6_readCon 105 = .ok (.ifCond .eq 123, 3) := dq_153 (a := 0) (b := 123) (fd_r fcX6_readCon (by decide +kernel)) rfl
theorem dX6_readCon_108 : decode cX6_readCon 108 = .ok (.iload 4, 2) := dq_21 (a := 4) (fd_r fcX6_readCon (by decide +kernel))
theorem dX6_readCon_110 : decode cX6_readCon 110 = .ok (.iconst 2, 1) := dq_5 (fd_r fcX6_readCon (by decide +kernel))
theorem dX6_readCon_111 : decode cX6_readCon 111 = .ok (.if_icmp .gt 117, 3) := dq_163 (a := 0) (b := 117) (fd_r fcX6_readCon (by decide +kernel)) rfl
theorem dX6_readCon_114 : decode cX6_readCon 114 = .ok (.iload 4, 2) := dq_21 (a := 4) (fd_r fcX6_readCon (by decide +kernel))
theorem dX6_readCon_116 : decode cX6_readCon 116 = .ok (.iconst 2, 1) := dq_5 (fd_r fcX6_readCon (by decide +kernel))
theorem dX6_readCon_117 : decode cX6_readCon 117 = .ok (.if_icmp .ne 17, 3) := dq_160 (a := 0) (b := 17) (fd_r fcX6_readCon (by decide +kernel)) rfl
theorem dX6_readCon_120 : decode cX6_readCon 120 = .ok (.aload_n 0, 1) := dq_42 (fd_r fcX6_readCon (by decide +kernel))
theorem dX6_readCon_121 : decode cX6_readCon 121 = .ok (.bipush 6, 2) := dq_16 (a := 6) (fd_r fcX6_readCon (by decide +kernel)) rfl
theorem dX6_readCon_123 : decode cX6_readCon 123 = .ok (.aload_n 0, 1) := dq_42 (fd_r fcX6_readCon (by decide +kernel))
theorem dX6_readCon_124 : decode cX6_readCon 124 = .ok (.getfield 12, 3) := dq_180 (a := 0) (b := 12) (fd_r fcX6_readCon (by decide +kernel)) rfl
theorem dX6_readCon_127 : decode cX6_readCon 127 = .ok (.getfield 72, 3) := dq_180 (a := 0) (b := 72) (fd_r fcX6_readCon (by decide +kernel)) rfl
theorem dX6_readCon_130 : decode cX6_readCon 130 = .ok (.invokevirtual 75, 3) := dq_182 (a := 0) (b := 75) (fd_r fcX6_readCon (by decide +kernel)) rfl
theorem dX6_readCon_133 : decode cX6_readCon 133 = .ok (.ireturn, 1) := dq_172 (fd_r fcX6_readCon (by decide +kernel))
theorem dX6_readCon_134 : decode cX6_readCon 134 = .ok (.aload_n 0, 1) := dq_42 (fd_r fcX6_readCon (by decide +kernel))
theorem dX6_readCon_135 : decode cX6_readCon 135 = .ok (.iload_n 2, 1) := dq_28 (fd_r fcX6_readCon (by decide +kernel))
theorem dX6_readCon_136 : decode cX6_readCon 136 = .ok (.invokevirtual 139, 3) := dq_182 (a := 0) (b := 139) (fd_r fcX6_readCon (by decide +kernel)) rfl
theorem dX6_readCon_139 : decode cX6_readCon 139 = .ok (.ifCond .ne 16, 3) := dq_154 (a := 0) (b := 16) (fd_r fcX6_readCon (by decide +kernel)) rfl
theorem dX6_readCon_142 : decode cX6_readCon 142 = .ok (.aload_n 0, 1) := dq_42 (fd_r fcX6_readCon (by decide +kernel))
theorem dX6_readCon_143 : decode cX6_readCon 143 = .ok (.iconst 3, 1) := dq_6 (fd_r fcX6_readCon (by decide +kernel))
theorem dX6_readCon_144 : decode cX6_readCon 144 = .ok (.aload_n 0, 1) := dq_42 (fd_r fcX6_readCon (by decide +kernel))
theorem dX6_readCon_145 : decode cX6_readCon 145 = .ok (.getfield 12, 3) := dq_180 (a := 0) (b := 12) (fd_r fcX6_readCon (by decide +kernel)) rfl
theorem dX6_readCon_148 : decode cX6_readCon 148 = .ok (.getfield 72, 3) := dq_180 (a := 0) (b := 72) (fd_r fcX6_readCon (by decide +kernel)) rfl
theorem dX6_readCon_151 : decode cX6_readCon 151 = .ok (.invokevirtual 75, 3) := dq_182 (a := 0) (b := 75) (fd_r fcX6_readCon (by decide +kernel)) rfl
theorem dX6_readCon_154 : decode cX6_readCon 154 = .ok (.ireturn, 1) := dq_172 (fd_r fcX6_readCon (by decide +kernel))
theorem dX6_readCon_155 : decode cX6_readCon 155 = .ok (.aload_n 0, 1) := dq_42 (fd_r fcX6_readCon (by decide +kernel))
theorem dX6_readCon_156 : decode cX6_readCon 156 = .ok (.invokevirtual 142, 3) := dq_182 (a := 0) (b := 142) (fd_r fcX6_readCon (by decide +kernel)) rfl
theorem dX6_readCon_159 : decode cX6_readCon 159 = .ok (.istore 8, 2) := dq_54 (a := 8) (fd_r fcX6_readCon (by decide +kernel))
theorem dX6_readCon_161 : decode cX6_readCon 161 = .ok (.iload 7, 2) := dq_21 (a := 7) (fd_r fcX6_readCon (by decide +kernel))
theorem dX6_readCon_163 : decode cX6_readCon 163 = .ok (.aload_n 1, 1) := dq_43 (fd_r fcX6_readCon (by decide +kernel))
theorem dX6_readCon_164 : decode cX6_readCon 164 = .ok (.iload 8, 2) := dq_21 (a := 8) (fd_r fcX6_readCon (by decide +kernel))
theorem dX6_readCon_166 : decode cX6_readCon 166 = .ok (.invokevirtual 146, 3) := dq_182 (a := 0) (b := 146) (fd_r fcX6_readCon (by decide +kernel)) rfl
theorem dX6_readCon_169 : decode cX6_readCon 169 = .ok (.imul, 1) := dq_104 (fd_r fcX6_readCon (by decide +kernel))
theorem dX6_readCon_170 : decode cX6_readCon 170 = .ok (.istore 7, 2) := dq_54 (a := 7) (fd_r fcX6_readCon (by decide +kernel))
theorem dX6_readCon_172 : decode cX6_readCon 172 = .ok (.aload_n 1, 1) := dq_43 (fd_r fcX6_readCon (by decide +kernel))
theorem dX6_readCon_173 : decode cX6_readCon 173 = .ok (.iload_n 2, 1) := dq_28 (fd_r fcX6_readCon (by decide +kernel))
theorem dX6_readCon_174 : decode cX6_readCon 174 = .ok (.invokevirtual 146, 3) := dq_182 (a := 0) (b := 146) (fd_r fcX6_readCon (by decide +kernel)) rfl
theorem dX6_readCon_177 : decode cX6_readCon 177 = .ok (.iload 7, 2) := dq_21 (a := 7) (fd_r fcX6_readCon (by decide +kernel))
theorem dX6_readCon_179 : decode cX6_readCon 179 = .ok (.iadd, 1) := dq_96 (fd_r fcX6_readCon (by decide +kernel))
theorem dX6_readCon_180 : decode cX6_readCon 180 = .ok (.sipush 2000, 3) := dq_17 (a := 7) (b := 208) (fd_r fcX6_readCon (by decide +kernel)) rfl
theorem dX6_readCon_183 : decode cX6_readCon 183 = .ok (.if_icmp .le 16, 3) := dq_164 (a := 0) (b := 16) (fd_r fcX6_readCon (by decide +kernel)) rfl
theorem dX6_readCon_186 : decode cX6_readCon 186 = .ok (.aload_n 0, 1) := dq_42 (fd_r fcX6_readCon (by decide +kernel))
theorem dX6_readCon_187 : decode cX6_readCon 187 = .ok (.iconst 4, 1) := dq_7 (fd_r fcX6_readCon (by decide +kernel))
theorem dX6_readCon_188 : decode cX6_readCon 188 = .ok (.aload_n 0, 1) := dq_42 (fd_r fcX6_readCon (by decide +kernel))
theorem dX6_readCon_189 : decode cX6_readCon 189 = .ok (.getfield 12, 3) := dq_180 (a := 0) (b := 12) (fd_r fcX6_readCon (by decide +kernel)) rfl
theorem dX6_readCon_192 : decode cX6_readCon 192 = .ok (.getfield 72, 3) := dq_180 (a := 0) (b := 72) (fd_r fcX6_readCon (by decide +kernel)) rfl
theorem dX6_readCon_195 : decode cX6_readCon 195 = .ok (.invokevirtual 75, 3) := dq_182 (a := 0) (b := 75) (fd_r fcX6_readCon (by decide +kernel)) rfl
theorem dX6_readCon_198 : decode cX6_readCon 198 = .ok (.ireturn, 1) := dq_172 (fd_r fcX6_readCon (by decide +kernel))
theorem dX6_readCon_199 : decode cX6_readCon 199 = .ok (.iload 4, 2) := dq_21 (a := 4) (fd_r fcX6_readCon (by decide +kernel))
theorem dX6_readCon_201 : decode cX6_readCon 201 = .ok (.ifCond .ne 10, 3) := dq_154 (a := 0) (b := 10) (fd_r fcX6_readCon (by decide +kernel)) rfl
theorem dX6_readCon_204 : decode cX6_readCon 204 = .ok (.iload 8, 2) := dq_21 (a := 8) (fd_r fcX6_readCon (by decide +kernel))
theorem dX6_readCon_206 : decode cX6_readCon 206 = .ok (.istore 5, 2) := dq_54 (a := 5) (fd_r fcX6_readCon (by decide +kernel))
theorem dX6_readCon_208 : decode cX6_readCon 208 = .ok (.goto 7, 3) := dq_167 (a := 0) (b := 7) (fd_r fcX6_readCon (by decide +kernel)) rfl
theorem dX6_readCon_211 : decode cX6_readCon 211 = .ok (.iload 8, 2) := dq_21 (a := 8) (fd_r fcX6_readCon (by decide +kernel))
theorem dX6_readCon_213 : decode cX6_readCon 213 = .ok (.istore 6, 2) := dq_54 (a := 6) (fd_r fcX6_readCon (by decide +kernel))
theorem dX6_readCon_215 : decode cX6_readCon 215 = .ok (.iinc 4 1, 3) := dq_132 (a := 4) (b := 1) (fd_r fcX6_readCon (by decide +kernel)) rfl
theorem dX6_readCon_218 : decode cX6_readCon 218 = .ok (.aload_n 0, 1) := dq_42 (fd_r fcX6_readCon (by decide +kernel))
theorem dX6_readCon_219 : decode cX6_readCon 219 = .ok (.getfield 12, 3) := dq_180 (a := 0) (b := 12) (fd_r fcX6_readCon (by decide +kernel)) rfl
theorem dX6_readCon_222 : decode cX6_readCon 222 = .ok (.invokevirtual 92, 3) := dq_182 (a := 0) (b := 92) (fd_r fcX6_readCon (by decide +kernel)) rfl
theorem dX6_readCon_225 : decode cX6_readCon 225 = .ok (.goto (-124), 3) := dq_167 (a := 255) (b := 132) (fd_r fcX6_readCon (by decide +kernel)) rfl
theorem dX6_readCon_228 : decode cX6_readCon 228 = .ok (.aload_n 1, 1) := dq_43 (fd_r fcX6_readCon (by decide +kernel))
theorem dX6_readCon_229 : decode cX6_readCon 229 = .ok (.iload_n 3, 1) := dq_29 (fd_r fcX6_readCon (by decide +kernel))
theorem dX6_readCon_230 : decode cX6_readCon 230 = .ok (.iload 4, 2) := dq_21 (a := 4) (fd_r fcX6_readCon (by decide +kernel))
theorem dX6_readCon_232 : decode cX6_readCon 232 = .ok (.iload 5, 2) := dq_21 (a := 5) (fd_r fcX6_readCon (by decide +kernel))
theorem dX6_readCon_234 : decode cX6_readCon 234 = .ok (.iload 6, 2) := dq_21 (a := 6) (fd_r fcX6_readCon (by decide +kernel))
theorem dX6_readCon_236 : decode cX6_readCon 236 = .ok (.iload 7, 2) := dq_21 (a := 7) (fd_r fcX6_readCon (by decide +kernel))
theorem dX6_readCon_238 : decode cX6_readCon 238 = .ok (.invokevirtual 149, 3) := dq_182 (a := 0) (b := 149) (fd_r fcX6_readCon (by decide +kernel)) rfl
theorem dX6_readCon_241 : decode cX6_readCon 241 = .ok (.iconst 1, 1) := dq_4 (fd_r fcX6_readCon (by decide +kernel))
theorem dX6_readCon_242 : decode cX6_readCon 242 = .ok (.ireturn, 1) := dq_172 (fd_r fcX6_readCon (by decide +kernel))
theorem dX6_isKindWord_0 : decode cX6_isKindWord 0 = .ok (.aload_n 0, 1) := dq_42 (fd_r fcX6_isKindWord (by decide +kernel))
theorem dX6_isKindWord_1 : decode cX6_isKindWord 1 = .ok (.getfield 12, 3) := dq_180 (a := 0) (b := 12) (fd_r fcX6_isKindWord (by decide +kernel)) rfl
theorem dX6_isKindWord_4 : decode cX6_isKindWord 4 = .ok (.invokevirtual 123, 3) := dq_182 (a := 0) (b := 123) (fd_r fcX6_isKindWord (by decide +kernel)) rfl
theorem dX6_isKindWord_7 : decode cX6_isKindWord 7 = .ok (.ifCond .ne 15, 3) := dq_154 (a := 0) (b := 15) (fd_r fcX6_isKindWord (by decide +kernel)) rfl
theorem dX6_isKindWord_10 : decode cX6_isKindWord 10 = .ok (.aload_n 0, 1) := dq_42 (fd_r fcX6_isKindWord (by decide +kernel))
theorem dX6_isKindWord_11 : decode cX6_isKindWord 11 = .ok (.getfield 12, 3) := dq_180 (a := 0) (b := 12) (fd_r fcX6_isKindWord (by decide +kernel)) rfl
theorem dX6_isKindWord_14 : decode cX6_isKindWord 14 = .ok (.getfield 43, 3) := dq_180 (a := 0) (b := 43) (fd_r fcX6_isKindWord (by decide +kernel)) rfl
theorem dX6_isKindWord_17 : decode cX6_isKindWord 17 = .ok (.bipush 7, 2) := dq_16 (a := 7) (fd_r fcX6_isKindWord (by decide +kernel)) rfl
theorem dX6_isKindWord_19 : decode cX6_isKindWord 19 = .ok (.if_icmp .ne 7, 3) := dq_160 (a := 0) (b := 7) (fd_r fcX6_isKindWord (by decide +kernel)) rfl
theorem dX6_isKindWord_22 : decode cX6_isKindWord 22 = .ok (.iconst 1, 1) := dq_4 (fd_r fcX6_isKindWord (by decide +kernel))
theorem dX6_isKindWord_23 : decode cX6_isKindWord 23 = .ok (.goto 4, 3) := dq_167 (a := 0) (b := 4) (fd_r fcX6_isKindWord (by decide +kernel)) rfl
theorem dX6_isKindWord_26 : decode cX6_isKindWord 26 = .ok (.iconst 0, 1) := dq_3 (fd_r fcX6_isKindWord (by decide +kernel))
theorem dX6_isKindWord_27 : decode cX6_isKindWord 27 = .ok (.ireturn, 1) := dq_172 (fd_r fcX6_isKindWord (by decide +kernel))
theorem dX6_kindHere_0 : decode cX6_kindHere 0 = .ok (.aload_n 0, 1) := dq_42 (fd_r fcX6_kindHere (by decide +kernel))
theorem dX6_kindHere_1 : decode cX6_kindHere 1 = .ok (.getfield 12, 3) := dq_180 (a := 0) (b := 12) (fd_r fcX6_kindHere (by decide +kernel)) rfl
theorem dX6_kindHere_4 : decode cX6_kindHere 4 = .ok (.getfield 43, 3) := dq_180 (a := 0) (b := 43) (fd_r fcX6_kindHere (by decide +kernel)) rfl
theorem dX6_kindHere_7 : decode cX6_kindHere 7 = .ok (.bipush 7, 2) := dq_16 (a := 7) (fd_r fcX6_kindHere (by decide +kernel)) rfl
theorem dX6_kindHere_9 : decode cX6_kindHere 9 = .ok (.if_icmp .ne 7, 3) := dq_160 (a := 0) (b := 7) (fd_r fcX6_kindHere (by decide +kernel)) rfl
theorem dX6_kindHere_12 : decode cX6_kindHere 12 = .ok (.iconst (-1), 1) := dq_2 (fd_r fcX6_kindHere (by decide +kernel))
theorem dX6_kindHere_13 : decode cX6_kindHere 13 = .ok (.goto 20, 3) := dq_167 (a := 0) (b := 20) (fd_r fcX6_kindHere (by decide +kernel)) rfl
theorem dX6_kindHere_16 : decode cX6_kindHere 16 = .ok (.aload_n 0, 1) := dq_42 (fd_r fcX6_kindHere (by decide +kernel))
theorem dX6_kindHere_17 : decode cX6_kindHere 17 = .ok (.getfield 27, 3) := dq_180 (a := 0) (b := 27) (fd_r fcX6_kindHere (by decide +kernel)) rfl
theorem dX6_kindHere_20 : decode cX6_kindHere 20 = .ok (.getfield 108, 3) := dq_180 (a := 0) (b := 108) (fd_r fcX6_kindHere (by decide +kernel)) rfl
theorem dX6_kindHere_23 : decode cX6_kindHere 23 = .ok (.aload_n 0, 1) := dq_42 (fd_r fcX6_kindHere (by decide +kernel))
theorem dX6_kindHere_24 : decode cX6_kindHere 24 = .ok (.getfield 12, 3) := dq_180 (a := 0) (b := 12) (fd_r fcX6_kindHere (by decide +kernel)) rfl
theorem dX6_kindHere_27 : decode cX6_kindHere 27 = .ok (.getfield 95, 3) := dq_180 (a := 0) (b := 95) (fd_r fcX6_kindHere (by decide +kernel)) rfl
theorem dX6_kindHere_30 : decode cX6_kindHere 30 = .ok (.invokevirtual 126, 3) := dq_182 (a := 0) (b := 126) (fd_r fcX6_kindHere (by decide +kernel)) rfl
theorem dX6_kindHere_33 : decode cX6_kindHere 33 = .ok (.ireturn, 1) := dq_172 (fd_r fcX6_kindHere (by decide +kernel))
theorem dX6_isKindHere_0 : decode cX6_isKindHere 0 = .ok (.aload_n 0, 1) := dq_42 (fd_r fcX6_isKindHere (by decide +kernel))
theorem dX6_isKindHere_1 : decode cX6_isKindHere 1 = .ok (.getfield 12, 3) := dq_180 (a := 0) (b := 12) (fd_r fcX6_isKindHere (by decide +kernel)) rfl
theorem dX6_isKindHere_4 : decode cX6_isKindHere 4 = .ok (.getfield 43, 3) := dq_180 (a := 0) (b := 43) (fd_r fcX6_isKindHere (by decide +kernel)) rfl
theorem dX6_isKindHere_7 : decode cX6_isKindHere 7 = .ok (.bipush 7, 2) := dq_16 (a := 7) (fd_r fcX6_isKindHere (by decide +kernel)) rfl
theorem dX6_isKindHere_9 : decode cX6_isKindHere 9 = .ok (.if_icmp .ne 5, 3) := dq_160 (a := 0) (b := 5) (fd_r fcX6_isKindHere (by decide +kernel)) rfl
theorem dX6_isKindHere_12 : decode cX6_isKindHere 12 = .ok (.iconst 1, 1) := dq_4 (fd_r fcX6_isKindHere (by decide +kernel))
theorem dX6_isKindHere_13 : decode cX6_isKindHere 13 = .ok (.ireturn, 1) := dq_172 (fd_r fcX6_isKindHere (by decide +kernel))
theorem dX6_isKindHere_14 : decode cX6_isKindHere 14 = .ok (.aload_n 0, 1) := dq_42 (fd_r fcX6_isKindHere (by decide +kernel))
theorem dX6_isKindHere_15 : decode cX6_isKindHere 15 = .ok (.invokevirtual 142, 3) := dq_182 (a := 0) (b := 142) (fd_r fcX6_isKindHere (by decide +kernel)) rfl
theorem dX6_isKindHere_18 : decode cX6_isKindHere 18 = .ok (.istore_n 2, 1) := dq_61 (fd_r fcX6_isKindHere (by decide +kernel))
theorem dX6_isKindHere_19 : decode cX6_isKindHere 19 = .ok (.iload_n 2, 1) := dq_28 (fd_r fcX6_isKindHere (by decide +kernel))
theorem dX6_isKindHere_20 : decode cX6_isKindHere 20 = .ok (.iconst (-1), 1) := dq_2 (fd_r fcX6_isKindHere (by decide +kernel))
theorem dX6_isKindHere_21 : decode cX6_isKindHere 21 = .ok (.if_icmp .eq 26, 3) := dq_159 (a := 0) (b := 26) (fd_r fcX6_isKindHere (by decide +kernel)) rfl
theorem dX6_isKindHere_24 : decode cX6_isKindHere 24 = .ok (.iload_n 2, 1) := dq_28 (fd_r fcX6_isKindHere (by decide +kernel))
theorem dX6_isKindHere_25 : decode cX6_isKindHere 25 = .ok (.iload_n 1, 1) := dq_27 (fd_r fcX6_isKindHere (by decide +kernel))
theorem dX6_isKindHere_26 : decode cX6_isKindHere 26 = .ok (.if_icmp .eq 21, 3) := dq_159 (a := 0) (b := 21) (fd_r fcX6_isKindHere (by decide +kernel)) rfl
theorem dX6_isKindHere_29 : decode cX6_isKindHere 29 = .ok (.aload_n 0, 1) := dq_42 (fd_r fcX6_isKindHere (by decide +kernel))
theorem dX6_isKindHere_30 : decode cX6_isKindHere 30 = .ok (.getfield 27, 3) := dq_180 (a := 0) (b := 27) (fd_r fcX6_isKindHere (by decide +kernel)) rfl
theorem dX6_isKindHere_33 : decode cX6_isKindHere 33 = .ok (.getfield 108, 3) := dq_180 (a := 0) (b := 108) (fd_r fcX6_isKindHere (by decide +kernel)) rfl
theorem dX6_isKindHere_36 : decode cX6_isKindHere 36 = .ok (.iload_n 2, 1) := dq_28 (fd_r fcX6_isKindHere (by decide +kernel))
theorem dX6_isKindHere_37 : decode cX6_isKindHere 37 = .ok (.invokevirtual 133, 3) := dq_182 (a := 0) (b := 133) (fd_r fcX6_isKindHere (by decide +kernel)) rfl
theorem dX6_isKindHere_40 : decode cX6_isKindHere 40 = .ok (.ifCond .le 7, 3) := dq_158 (a := 0) (b := 7) (fd_r fcX6_isKindHere (by decide +kernel)) rfl
theorem dX6_isKindHere_43 : decode cX6_isKindHere 43 = .ok (.iconst 1, 1) := dq_4 (fd_r fcX6_isKindHere (by decide +kernel))
theorem dX6_isKindHere_44 : decode cX6_isKindHere 44 = .ok (.goto 4, 3) := dq_167 (a := 0) (b := 4) (fd_r fcX6_isKindHere (by decide +kernel)) rfl
theorem dX6_isKindHere_47 : decode cX6_isKindHere 47 = .ok (.iconst 0, 1) := dq_3 (fd_r fcX6_isKindHere (by decide +kernel))
theorem dX6_isKindHere_48 : decode cX6_isKindHere 48 = .ok (.ireturn, 1) := dq_172 (fd_r fcX6_isKindHere (by decide +kernel))
theorem dX6_readColumns_0 : decode cX6_readColumns 0 = .ok (.aload_n 0, 1) := dq_42 (fd_r fcX6_readColumns (by decide +kernel))
theorem dX6_readColumns_1 : decode cX6_readColumns 1 = .ok (.getfield 27, 3) := dq_180 (a := 0) (b := 27) (fd_r fcX6_readColumns (by decide +kernel)) rfl
theorem dX6_readColumns_4 : decode cX6_readColumns 4 = .ok (.getfield 79, 3) := dq_180 (a := 0) (b := 79) (fd_r fcX6_readColumns (by decide +kernel)) rfl
theorem dX6_readColumns_7 : decode cX6_readColumns 7 = .ok (.ifCond .le 17, 3) := dq_158 (a := 0) (b := 17) (fd_r fcX6_readColumns (by decide +kernel)) rfl
theorem dX6_readColumns_10 : decode cX6_readColumns 10 = .ok (.aload_n 0, 1) := dq_42 (fd_r fcX6_readColumns (by decide +kernel))
theorem dX6_readColumns_11 : decode cX6_readColumns 11 = .ok (.bipush 6, 2) := dq_16 (a := 6) (fd_r fcX6_readColumns (by decide +kernel)) rfl
theorem dX6_readColumns_13 : decode cX6_readColumns 13 = .ok (.aload_n 0, 1) := dq_42 (fd_r fcX6_readColumns (by decide +kernel))
theorem dX6_readColumns_14 : decode cX6_readColumns 14 = .ok (.getfield 12, 3) := dq_180 (a := 0) (b := 12) (fd_r fcX6_readColumns (by decide +kernel)) rfl
theorem dX6_readColumns_17 : decode cX6_readColumns 17 = .ok (.getfield 72, 3) := dq_180 (a := 0) (b := 72) (fd_r fcX6_readColumns (by decide +kernel)) rfl
theorem dX6_readColumns_20 : decode cX6_readColumns 20 = .ok (.invokevirtual 75, 3) := dq_182 (a := 0) (b := 75) (fd_r fcX6_readColumns (by decide +kernel)) rfl
theorem dX6_readColumns_23 : decode cX6_readColumns 23 = .ok (.ireturn, 1) := dq_172 (fd_r fcX6_readColumns (by decide +kernel))
theorem dX6_readColumns_24 : decode cX6_readColumns 24 = .ok (.aload_n 0, 1) := dq_42 (fd_r fcX6_readColumns (by decide +kernel))
theorem dX6_readColumns_25 : decode cX6_readColumns 25 = .ok (.getfield 12, 3) := dq_180 (a := 0) (b := 12) (fd_r fcX6_readColumns (by decide +kernel)) rfl
theorem dX6_readColumns_28 : decode cX6_readColumns 28 = .ok (.invokevirtual 92, 3) := dq_182 (a := 0) (b := 92) (fd_r fcX6_readColumns (by decide +kernel)) rfl
theorem dX6_readColumns_31 : decode cX6_readColumns 31 = .ok (.aload_n 0, 1) := dq_42 (fd_r fcX6_readColumns (by decide +kernel))
theorem dX6_readColumns_32 : decode cX6_readColumns 32 = .ok (.invokevirtual 136, 3) := dq_182 (a := 0) (b := 136) (fd_r fcX6_readColumns (by decide +kernel)) rfl
theorem dX6_readColumns_35 : decode cX6_readColumns 35 = .ok (.ifCond .ne 8, 3) := dq_154 (a := 0) (b := 8) (fd_r fcX6_readColumns (by decide +kernel)) rfl
theorem dX6_readColumns_38 : decode cX6_readColumns 38 = .ok (.aload_n 0, 1) := dq_42 (fd_r fcX6_readColumns (by decide +kernel))
theorem dX6_readColumns_39 : decode cX6_readColumns 39 = .ok (.invokevirtual 65, 3) := dq_182 (a := 0) (b := 65) (fd_r fcX6_readColumns (by decide +kernel)) rfl
theorem dX6_readColumns_42 : decode cX6_readColumns 42 = .ok (.ireturn, 1) := dq_172 (fd_r fcX6_readColumns (by decide +kernel))
theorem dX6_readColumns_43 : decode cX6_readColumns 43 = .ok (.iconst 1, 1) := dq_4 (fd_r fcX6_readColumns (by decide +kernel))
theorem dX6_readColumns_44 : decode cX6_readColumns 44 = .ok (.istore_n 1, 1) := dq_60 (fd_r fcX6_readColumns (by decide +kernel))
theorem dX6_readColumns_45 : decode cX6_readColumns 45 = .ok (.iconst 0, 1) := dq_3 (fd_r fcX6_readColumns (by decide +kernel))
theorem dX6_readColumns_46 : decode cX6_readColumns 46 = .ok (.istore_n 2, 1) := dq_61 (fd_r fcX6_readColumns (by decide +kernel))
theorem dX6_readColumns_47 : decode cX6_readColumns 47 = .ok (.iload_n 2, 1) := dq_28 (fd_r fcX6_readColumns (by decide +kernel))
theorem dX6_readColumns_48 : decode cX6_readColumns 48 = .ok (.iconst 4, 1) := dq_7 (fd_r fcX6_readColumns (by decide +kernel))
theorem dX6_readColumns_49 : decode cX6_readColumns 49 = .ok (.if_icmp .gt 110, 3) := dq_163 (a := 0) (b := 110) (fd_r fcX6_readColumns (by decide +kernel)) rfl
theorem dX6_readColumns_52 : decode cX6_readColumns 52 = .ok (.aload_n 0, 1) := dq_42 (fd_r fcX6_readColumns (by decide +kernel))
theorem dX6_readColumns_53 : decode cX6_readColumns 53 = .ok (.invokevirtual 136, 3) := dq_182 (a := 0) (b := 136) (fd_r fcX6_readColumns (by decide +kernel)) rfl
theorem dX6_readColumns_56 : decode cX6_readColumns 56 = .ok (.ifCond .eq 103, 3) := dq_153 (a := 0) (b := 103) (fd_r fcX6_readColumns (by decide +kernel)) rfl
theorem dX6_readColumns_59 : decode cX6_readColumns 59 = .ok (.iload_n 2, 1) := dq_28 (fd_r fcX6_readColumns (by decide +kernel))
theorem dX6_readColumns_60 : decode cX6_readColumns 60 = .ok (.iconst 4, 1) := dq_7 (fd_r fcX6_readColumns (by decide +kernel))
theorem dX6_readColumns_61 : decode cX6_readColumns 61 = .ok (.if_icmp .ne 17, 3) := dq_160 (a := 0) (b := 17) (fd_r fcX6_readColumns (by decide +kernel)) rfl
theorem dX6_readColumns_64 : decode cX6_readColumns 64 = .ok (.aload_n 0, 1) := dq_42 (fd_r fcX6_readColumns (by decide +kernel))
theorem dX6_readColumns_65 : decode cX6_readColumns 65 = .ok (.bipush 6, 2) := dq_16 (a := 6) (fd_r fcX6_readColumns (by decide +kernel)) rfl
theorem dX6_readColumns_67 : decode cX6_readColumns 67 = .ok (.aload_n 0, 1) := dq_42 (fd_r fcX6_readColumns (by decide +kernel))
theorem dX6_readColumns_68 : decode cX6_readColumns 68 = .ok (.getfield 12, 3) := dq_180 (a := 0) (b := 12) (fd_r fcX6_readColumns (by decide +kernel)) rfl
theorem dX6_readColumns_71 : decode cX6_readColumns 71 = .ok (.getfield 72, 3) := dq_180 (a := 0) (b := 72) (fd_r fcX6_readColumns (by decide +kernel)) rfl
theorem dX6_readColumns_74 : decode cX6_readColumns 74 = .ok (.invokevirtual 75, 3) := dq_182 (a := 0) (b := 75) (fd_r fcX6_readColumns (by decide +kernel)) rfl
theorem dX6_readColumns_77 : decode cX6_readColumns 77 = .ok (.ireturn, 1) := dq_172 (fd_r fcX6_readColumns (by decide +kernel))
theorem dX6_readColumns_78 : decode cX6_readColumns 78 = .ok (.aload_n 0, 1) := dq_42 (fd_r fcX6_readColumns (by decide +kernel))
theorem dX6_readColumns_79 : decode cX6_readColumns 79 = .ok (.iconst (-1), 1) := dq_2 (fd_r fcX6_readColumns (by decide +kernel))
theorem dX6_readColumns_80 : decode cX6_readColumns 80 = .ok (.invokevirtual 139, 3) := dq_182 (a := 0) (b := 139) (fd_r fcX6_readColumns (by decide +kernel)) rfl
theorem dX6_readColumns_83 : decode cX6_readColumns 83 = .ok (.ifCond .ne 16, 3) := dq_154 (a := 0) (b := 16) (fd_r fcX6_readColumns (by decide +kernel)) rfl
theorem dX6_readColumns_86 : decode cX6_readColumns 86 = .ok (.aload_n 0, 1) := dq_42 (fd_r fcX6_readColumns (by decide +kernel))
theorem dX6_readColumns_87 : decode cX6_readColumns 87 = .ok (.iconst 3, 1) := dq_6 (fd_r fcX6_readColumns (by decide +kernel))
theorem dX6_readColumns_88 : decode cX6_readColumns 88 = .ok (.aload_n 0, 1) := dq_42 (fd_r fcX6_readColumns (by decide +kernel))
theorem dX6_readColumns_89 : decode cX6_readColumns 89 = .ok (.getfield 12, 3) := dq_180 (a := 0) (b := 12) (fd_r fcX6_readColumns (by decide +kernel)) rfl
theorem dX6_readColumns_92 : decode cX6_readColumns 92 = .ok (.getfield 72, 3) := dq_180 (a := 0) (b := 72) (fd_r fcX6_readColumns (by decide +kernel)) rfl
theorem dX6_readColumns_95 : decode cX6_readColumns 95 = .ok (.invokevirtual 75, 3) := dq_182 (a := 0) (b := 75) (fd_r fcX6_readColumns (by decide +kernel)) rfl
theorem dX6_readColumns_98 : decode cX6_readColumns 98 = .ok (.ireturn, 1) := dq_172 (fd_r fcX6_readColumns (by decide +kernel))
theorem dX6_readColumns_99 : decode cX6_readColumns 99 = .ok (.aload_n 0, 1) := dq_42 (fd_r fcX6_readColumns (by decide +kernel))
theorem dX6_readColumns_100 : decode cX6_readColumns 100 = .ok (.invokevirtual 142, 3) := dq_182 (a := 0) (b := 142) (fd_r fcX6_readColumns (by decide +kernel)) rfl
theorem dX6_readColumns_103 : decode cX6_readColumns 103 = .ok (.istore_n 3, 1) := dq_62 (fd_r fcX6_readColumns (by decide +kernel))
theorem dX6_readColumns_104 : decode cX6_readColumns 104 = .ok (.iload_n 1, 1) := dq_27 (fd_r fcX6_readColumns (by decide +kernel))
theorem dX6_readColumns_105 : decode cX6_readColumns 105 = .ok (.aload_n 0, 1) := dq_42 (fd_r fcX6_readColumns (by decide +kernel))
theorem dX6_readColumns_106 : decode cX6_readColumns 106 = .ok (.getfield 27, 3) := dq_180 (a := 0) (b := 27) (fd_r fcX6_readColumns (by decide +kernel)) rfl
theorem dX6_readColumns_109 : decode cX6_readColumns 109 = .ok (.getfield 108, 3) := dq_180 (a := 0) (b := 108) (fd_r fcX6_readColumns (by decide +kernel)) rfl
theorem dX6_readColumns_112 : decode cX6_readColumns 112 = .ok (.iload_n 3, 1) := dq_29 (fd_r fcX6_readColumns (by decide +kernel))
theorem dX6_readColumns_113 : decode cX6_readColumns 113 = .ok (.invokevirtual 146, 3) := dq_182 (a := 0) (b := 146) (fd_r fcX6_readColumns (by decide +kernel)) rfl
theorem dX6_readColumns_116 : decode cX6_readColumns 116 = .ok (.imul, 1) := dq_104 (fd_r fcX6_readColumns (by decide +kernel))
theorem dX6_readColumns_117 : decode cX6_readColumns 117 = .ok (.istore_n 1, 1) := dq_60 (fd_r fcX6_readColumns (by decide +kernel))
theorem dX6_readColumns_118 : decode cX6_readColumns 118 = .ok (.iload_n 1, 1) := dq_27 (fd_r fcX6_readColumns (by decide +kernel))
theorem dX6_readColumns_119 : decode cX6_readColumns 119 = .ok (.sipush 20000, 3) := dq_17 (a := 78) (b := 32) (fd_r fcX6_readColumns (by decide +kernel)) rfl
theorem dX6_readColumns_122 : decode cX6_readColumns 122 = .ok (.if_icmp .le 16, 3) := dq_164 (a := 0) (b := 16) (fd_r fcX6_readColumns (by decide +kernel)) rfl
theorem dX6_readColumns_125 : decode cX6_readColumns 125 = .ok (.aload_n 0, 1) := dq_42 (fd_r fcX6_readColumns (by decide +kernel))
theorem dX6_readColumns_126 : decode cX6_readColumns 126 = .ok (.iconst 4, 1) := dq_7 (fd_r fcX6_readColumns (by decide +kernel))
theorem dX6_readColumns_127 : decode cX6_readColumns 127 = .ok (.aload_n 0, 1) := dq_42 (fd_r fcX6_readColumns (by decide +kernel))
theorem dX6_readColumns_128 : decode cX6_readColumns 128 = .ok (.getfield 12, 3) := dq_180 (a := 0) (b := 12) (fd_r fcX6_readColumns (by decide +kernel)) rfl
theorem dX6_readColumns_131 : decode cX6_readColumns 131 = .ok (.getfield 72, 3) := dq_180 (a := 0) (b := 72) (fd_r fcX6_readColumns (by decide +kernel)) rfl
theorem dX6_readColumns_134 : decode cX6_readColumns 134 = .ok (.invokevirtual 75, 3) := dq_182 (a := 0) (b := 75) (fd_r fcX6_readColumns (by decide +kernel)) rfl
theorem dX6_readColumns_137 : decode cX6_readColumns 137 = .ok (.ireturn, 1) := dq_172 (fd_r fcX6_readColumns (by decide +kernel))
theorem dX6_readColumns_138 : decode cX6_readColumns 138 = .ok (.aload_n 0, 1) := dq_42 (fd_r fcX6_readColumns (by decide +kernel))
end
section
theorem dX6_readColumns_139 : decode cX6_readColumns 139 = .ok (.getfield 27, 3) := dq_180 (a := 0) (b := 27) (fd_r fcX6_readColumns (by decide +kernel)) rfl
theorem dX6_readColumns_142 : decode cX6_readColumns 142 = .ok (.iload_n 3, 1) := dq_29 (fd_r fcX6_readColumns (by decide +kernel))
theorem dX6_readColumns_143 : decode cX6_readColumns 143 = .ok (.invokevirtual 153, 3) := dq_182 (a := 0) (b := 153) (fd_r fcX6_readColumns (by decide +kernel)) rfl
theorem dX6_readColumns_146 : decode cX6_readColumns 146 = .ok (.aload_n 0, 1) := dq_42 (fd_r fcX6_readColumns (by decide +kernel))
theorem dX6_readColumns_147 : decode cX6_readColumns 147 = .ok (.getfield 12, 3) := dq_180 (a := 0) (b := 12) (fd_r fcX6_readColumns (by decide +kernel)) rfl
theorem dX6_readColumns_150 : decode cX6_readColumns 150 = .ok (.invokevirtual 92, 3) := dq_182 (a := 0) (b := 92) (fd_r fcX6_readColumns (by decide +kernel)) rfl
theorem dX6_readColumns_153 : decode cX6_readColumns 153 = .ok (.iinc 2 1, 3) := dq_132 (a := 2) (b := 1) (fd_r fcX6_readColumns (by decide +kernel)) rfl
theorem dX6_readColumns_156 : decode cX6_readColumns 156 = .ok (.goto (-109), 3) := dq_167 (a := 255) (b := 147) (fd_r fcX6_readColumns (by decide +kernel)) rfl
theorem dX6_readColumns_159 : decode cX6_readColumns 159 = .ok (.iconst 1, 1) := dq_4 (fd_r fcX6_readColumns (by decide +kernel))
theorem dX6_readColumns_160 : decode cX6_readColumns 160 = .ok (.ireturn, 1) := dq_172 (fd_r fcX6_readColumns (by decide +kernel))
theorem dX6_readArm_0 : decode cX6_readArm 0 = .ok (.aload_n 0, 1) := dq_42 (fd_r fcX6_readArm (by decide +kernel))
theorem dX6_readArm_1 : decode cX6_readArm 1 = .ok (.getfield 27, 3) := dq_180 (a := 0) (b := 27) (fd_r fcX6_readArm (by decide +kernel)) rfl
theorem dX6_readArm_4 : decode cX6_readArm 4 = .ok (.getfield 79, 3) := dq_180 (a := 0) (b := 79) (fd_r fcX6_readArm (by decide +kernel)) rfl
theorem dX6_readArm_7 : decode cX6_readArm 7 = .ok (.ifCond .ne 8, 3) := dq_154 (a := 0) (b := 8) (fd_r fcX6_readArm (by decide +kernel)) rfl
theorem dX6_readArm_10 : decode cX6_readArm 10 = .ok (.aload_n 0, 1) := dq_42 (fd_r fcX6_readArm (by decide +kernel))
theorem dX6_readArm_11 : decode cX6_readArm 11 = .ok (.invokevirtual 65, 3) := dq_182 (a := 0) (b := 65) (fd_r fcX6_readArm (by decide +kernel)) rfl
theorem dX6_readArm_14 : decode cX6_readArm 14 = .ok (.ireturn, 1) := dq_172 (fd_r fcX6_readArm (by decide +kernel))
theorem dX6_readArm_15 : decode cX6_readArm 15 = .ok (.aload_n 0, 1) := dq_42 (fd_r fcX6_readArm (by decide +kernel))
theorem dX6_readArm_16 : decode cX6_readArm 16 = .ok (.getfield 27, 3) := dq_180 (a := 0) (b := 27) (fd_r fcX6_readArm (by decide +kernel)) rfl
theorem dX6_readArm_19 : decode cX6_readArm 19 = .ok (.getfield 156, 3) := dq_180 (a := 0) (b := 156) (fd_r fcX6_readArm (by decide +kernel)) rfl
theorem dX6_readArm_22 : decode cX6_readArm 22 = .ok (.bipush 12, 2) := dq_16 (a := 12) (fd_r fcX6_readArm (by decide +kernel)) rfl
theorem dX6_readArm_24 : decode cX6_readArm 24 = .ok (.if_icmp .lt 17, 3) := dq_161 (a := 0) (b := 17) (fd_r fcX6_readArm (by decide +kernel)) rfl
theorem dX6_readArm_27 : decode cX6_readArm 27 = .ok (.aload_n 0, 1) := dq_42 (fd_r fcX6_readArm (by decide +kernel))
theorem dX6_readArm_28 : decode cX6_readArm 28 = .ok (.bipush 6, 2) := dq_16 (a := 6) (fd_r fcX6_readArm (by decide +kernel)) rfl
theorem dX6_readArm_30 : decode cX6_readArm 30 = .ok (.aload_n 0, 1) := dq_42 (fd_r fcX6_readArm (by decide +kernel))
theorem dX6_readArm_31 : decode cX6_readArm 31 = .ok (.getfield 12, 3) := dq_180 (a := 0) (b := 12) (fd_r fcX6_readArm (by decide +kernel)) rfl
theorem dX6_readArm_34 : decode cX6_readArm 34 = .ok (.getfield 72, 3) := dq_180 (a := 0) (b := 72) (fd_r fcX6_readArm (by decide +kernel)) rfl
theorem dX6_readArm_37 : decode cX6_readArm 37 = .ok (.invokevirtual 75, 3) := dq_182 (a := 0) (b := 75) (fd_r fcX6_readArm (by decide +kernel)) rfl
theorem dX6_readArm_40 : decode cX6_readArm 40 = .ok (.ireturn, 1) := dq_172 (fd_r fcX6_readArm (by decide +kernel))
theorem dX6_readArm_41 : decode cX6_readArm 41 = .ok (.aload_n 0, 1) := dq_42 (fd_r fcX6_readArm (by decide +kernel))
theorem dX6_readArm_42 : decode cX6_readArm 42 = .ok (.getfield 12, 3) := dq_180 (a := 0) (b := 12) (fd_r fcX6_readArm (by decide +kernel)) rfl
theorem dX6_readArm_45 : decode cX6_readArm 45 = .ok (.invokevirtual 92, 3) := dq_182 (a := 0) (b := 92) (fd_r fcX6_readArm (by decide +kernel)) rfl
theorem dX6_readArm_48 : decode cX6_readArm 48 = .ok (.iconst 0, 1) := dq_3 (fd_r fcX6_readArm (by decide +kernel))
theorem dX6_readArm_49 : decode cX6_readArm 49 = .ok (.istore_n 1, 1) := dq_60 (fd_r fcX6_readArm (by decide +kernel))
theorem dX6_readArm_50 : decode cX6_readArm 50 = .ok (.iload_n 1, 1) := dq_27 (fd_r fcX6_readArm (by decide +kernel))
theorem dX6_readArm_51 : decode cX6_readArm 51 = .ok (.aload_n 0, 1) := dq_42 (fd_r fcX6_readArm (by decide +kernel))
theorem dX6_readArm_52 : decode cX6_readArm 52 = .ok (.getfield 27, 3) := dq_180 (a := 0) (b := 27) (fd_r fcX6_readArm (by decide +kernel)) rfl
theorem dX6_readArm_55 : decode cX6_readArm 55 = .ok (.getfield 79, 3) := dq_180 (a := 0) (b := 79) (fd_r fcX6_readArm (by decide +kernel)) rfl
theorem dX6_readArm_58 : decode cX6_readArm 58 = .ok (.if_icmp .ge 58, 3) := dq_162 (a := 0) (b := 58) (fd_r fcX6_readArm (by decide +kernel)) rfl
theorem dX6_readArm_61 : decode cX6_readArm 61 = .ok (.iload_n 1, 1) := dq_27 (fd_r fcX6_readArm (by decide +kernel))
theorem dX6_readArm_62 : decode cX6_readArm 62 = .ok (.ifCond .le 14, 3) := dq_158 (a := 0) (b := 14) (fd_r fcX6_readArm (by decide +kernel)) rfl
theorem dX6_readArm_65 : decode cX6_readArm 65 = .ok (.aload_n 0, 1) := dq_42 (fd_r fcX6_readArm (by decide +kernel))
theorem dX6_readArm_66 : decode cX6_readArm 66 = .ok (.bipush 44, 2) := dq_16 (a := 44) (fd_r fcX6_readArm (by decide +kernel)) rfl
theorem dX6_readArm_68 : decode cX6_readArm 68 = .ok (.invokevirtual 68, 3) := dq_182 (a := 0) (b := 68) (fd_r fcX6_readArm (by decide +kernel)) rfl
theorem dX6_readArm_71 : decode cX6_readArm 71 = .ok (.ifCond .ne 5, 3) := dq_154 (a := 0) (b := 5) (fd_r fcX6_readArm (by decide +kernel)) rfl
theorem dX6_readArm_74 : decode cX6_readArm 74 = .ok (.iconst 0, 1) := dq_3 (fd_r fcX6_readArm (by decide +kernel))
theorem dX6_readArm_75 : decode cX6_readArm 75 = .ok (.ireturn, 1) := dq_172 (fd_r fcX6_readArm (by decide +kernel))
theorem dX6_readArm_76 : decode cX6_readArm 76 = .ok (.aload_n 0, 1) := dq_42 (fd_r fcX6_readArm (by decide +kernel))
theorem dX6_readArm_77 : decode cX6_readArm 77 = .ok (.aload_n 0, 1) := dq_42 (fd_r fcX6_readArm (by decide +kernel))
theorem dX6_readArm_78 : decode cX6_readArm 78 = .ok (.getfield 27, 3) := dq_180 (a := 0) (b := 27) (fd_r fcX6_readArm (by decide +kernel)) rfl
theorem dX6_readArm_81 : decode cX6_readArm 81 = .ok (.getfield 159, 3) := dq_180 (a := 0) (b := 159) (fd_r fcX6_readArm (by decide +kernel)) rfl
theorem dX6_readArm_84 : decode cX6_readArm 84 = .ok (.iload_n 1, 1) := dq_27 (fd_r fcX6_readArm (by decide +kernel))
theorem dX6_readArm_85 : decode cX6_readArm 85 = .ok (.iaload, 1) := dq_46 (fd_r fcX6_readArm (by decide +kernel))
theorem dX6_readArm_86 : decode cX6_readArm 86 = .ok (.iconst 0, 1) := dq_3 (fd_r fcX6_readArm (by decide +kernel))
theorem dX6_readArm_87 : decode cX6_readArm 87 = .ok (.iconst 0, 1) := dq_3 (fd_r fcX6_readArm (by decide +kernel))
theorem dX6_readArm_88 : decode cX6_readArm 88 = .ok (.invokestatic 163, 3) := dq_184 (a := 0) (b := 163) (fd_r fcX6_readArm (by decide +kernel)) rfl
theorem dX6_readArm_91 : decode cX6_readArm 91 = .ok (.ifCond .ne 5, 3) := dq_154 (a := 0) (b := 5) (fd_r fcX6_readArm (by decide +kernel)) rfl
theorem dX6_readArm_94 : decode cX6_readArm 94 = .ok (.iconst 0, 1) := dq_3 (fd_r fcX6_readArm (by decide +kernel))
theorem dX6_readArm_95 : decode cX6_readArm 95 = .ok (.ireturn, 1) := dq_172 (fd_r fcX6_readArm (by decide +kernel))
theorem dX6_readArm_96 : decode cX6_readArm 96 = .ok (.aload_n 0, 1) := dq_42 (fd_r fcX6_readArm (by decide +kernel))
theorem dX6_readArm_97 : decode cX6_readArm 97 = .ok (.getfield 27, 3) := dq_180 (a := 0) (b := 27) (fd_r fcX6_readArm (by decide +kernel)) rfl
theorem dX6_readArm_100 : decode cX6_readArm 100 = .ok (.iload_n 1, 1) := dq_27 (fd_r fcX6_readArm (by decide +kernel))
theorem dX6_readArm_101 : decode cX6_readArm 101 = .ok (.aload_n 0, 1) := dq_42 (fd_r fcX6_readArm (by decide +kernel))
theorem dX6_readArm_102 : decode cX6_readArm 102 = .ok (.getfield 20, 3) := dq_180 (a := 0) (b := 20) (fd_r fcX6_readArm (by decide +kernel)) rfl
theorem dX6_readArm_105 : decode cX6_readArm 105 = .ok (.iconst 0, 1) := dq_3 (fd_r fcX6_readArm (by decide +kernel))
theorem dX6_readArm_106 : decode cX6_readArm 106 = .ok (.aaload, 1) := dq_50 (fd_r fcX6_readArm (by decide +kernel))
theorem dX6_readArm_107 : decode cX6_readArm 107 = .ok (.invokevirtual 167, 3) := dq_182 (a := 0) (b := 167) (fd_r fcX6_readArm (by decide +kernel)) rfl
theorem dX6_readArm_110 : decode cX6_readArm 110 = .ok (.iinc 1 1, 3) := dq_132 (a := 1) (b := 1) (fd_r fcX6_readArm (by decide +kernel)) rfl
theorem dX6_readArm_113 : decode cX6_readArm 113 = .ok (.goto (-63), 3) := dq_167 (a := 255) (b := 193) (fd_r fcX6_readArm (by decide +kernel)) rfl
theorem dX6_readArm_116 : decode cX6_readArm 116 = .ok (.iconst (-1), 1) := dq_2 (fd_r fcX6_readArm (by decide +kernel))
theorem dX6_readArm_117 : decode cX6_readArm 117 = .ok (.istore_n 1, 1) := dq_60 (fd_r fcX6_readArm (by decide +kernel))
theorem dX6_readArm_118 : decode cX6_readArm 118 = .ok (.aload_n 0, 1) := dq_42 (fd_r fcX6_readArm (by decide +kernel))
theorem dX6_readArm_119 : decode cX6_readArm 119 = .ok (.getfield 12, 3) := dq_180 (a := 0) (b := 12) (fd_r fcX6_readArm (by decide +kernel)) rfl
theorem dX6_readArm_122 : decode cX6_readArm 122 = .ok (.getfield 43, 3) := dq_180 (a := 0) (b := 43) (fd_r fcX6_readArm (by decide +kernel)) rfl
theorem dX6_readArm_125 : decode cX6_readArm 125 = .ok (.iconst 4, 1) := dq_7 (fd_r fcX6_readArm (by decide +kernel))
theorem dX6_readArm_126 : decode cX6_readArm 126 = .ok (.if_icmp .ne 25, 3) := dq_160 (a := 0) (b := 25) (fd_r fcX6_readArm (by decide +kernel)) rfl
theorem dX6_readArm_129 : decode cX6_readArm 129 = .ok (.aload_n 0, 1) := dq_42 (fd_r fcX6_readArm (by decide +kernel))
theorem dX6_readArm_130 : decode cX6_readArm 130 = .ok (.getfield 12, 3) := dq_180 (a := 0) (b := 12) (fd_r fcX6_readArm (by decide +kernel)) rfl
theorem dX6_readArm_133 : decode cX6_readArm 133 = .ok (.invokevirtual 92, 3) := dq_182 (a := 0) (b := 92) (fd_r fcX6_readArm (by decide +kernel)) rfl
theorem dX6_readArm_136 : decode cX6_readArm 136 = .ok (.aload_n 0, 1) := dq_42 (fd_r fcX6_readArm (by decide +kernel))
theorem dX6_readArm_137 : decode cX6_readArm 137 = .ok (.iconst 0, 1) := dq_3 (fd_r fcX6_readArm (by decide +kernel))
theorem dX6_readArm_138 : decode cX6_readArm 138 = .ok (.bipush 7, 2) := dq_16 (a := 7) (fd_r fcX6_readArm (by decide +kernel)) rfl
theorem dX6_readArm_140 : decode cX6_readArm 140 = .ok (.invokevirtual 98, 3) := dq_182 (a := 0) (b := 98) (fd_r fcX6_readArm (by decide +kernel)) rfl
theorem dX6_readArm_143 : decode cX6_readArm 143 = .ok (.istore_n 1, 1) := dq_60 (fd_r fcX6_readArm (by decide +kernel))
theorem dX6_readArm_144 : decode cX6_readArm 144 = .ok (.iload_n 1, 1) := dq_27 (fd_r fcX6_readArm (by decide +kernel))
theorem dX6_readArm_145 : decode cX6_readArm 145 = .ok (.iconst (-1), 1) := dq_2 (fd_r fcX6_readArm (by decide +kernel))
theorem dX6_readArm_146 : decode cX6_readArm 146 = .ok (.if_icmp .ne 5, 3) := dq_160 (a := 0) (b := 5) (fd_r fcX6_readArm (by decide +kernel)) rfl
theorem dX6_readArm_149 : decode cX6_readArm 149 = .ok (.iconst 0, 1) := dq_3 (fd_r fcX6_readArm (by decide +kernel))
theorem dX6_readArm_150 : decode cX6_readArm 150 = .ok (.ireturn, 1) := dq_172 (fd_r fcX6_readArm (by decide +kernel))
theorem dX6_readArm_151 : decode cX6_readArm 151 = .ok (.aload_n 0, 1) := dq_42 (fd_r fcX6_readArm (by decide +kernel))
theorem dX6_readArm_152 : decode cX6_readArm 152 = .ok (.getfield 27, 3) := dq_180 (a := 0) (b := 27) (fd_r fcX6_readArm (by decide +kernel)) rfl
theorem dX6_readArm_155 : decode cX6_readArm 155 = .ok (.iload_n 1, 1) := dq_27 (fd_r fcX6_readArm (by decide +kernel))
theorem dX6_readArm_156 : decode cX6_readArm 156 = .ok (.invokevirtual 171, 3) := dq_182 (a := 0) (b := 171) (fd_r fcX6_readArm (by decide +kernel)) rfl
theorem dX6_readArm_159 : decode cX6_readArm 159 = .ok (.iconst 1, 1) := dq_4 (fd_r fcX6_readArm (by decide +kernel))
theorem dX6_readArm_160 : decode cX6_readArm 160 = .ok (.ireturn, 1) := dq_172 (fd_r fcX6_readArm (by decide +kernel))
theorem dX6_readPattern_0 : decode cX6_readPattern 0 = .ok (.iload_n 3, 1) := dq_29 (fd_r fcX6_readPattern (by decide +kernel))
theorem dX6_readPattern_1 : decode cX6_readPattern 1 = .ok (.iconst 4, 1) := dq_7 (fd_r fcX6_readPattern (by decide +kernel))
theorem dX6_readPattern_2 : decode cX6_readPattern 2 = .ok (.if_icmp .gt 16, 3) := dq_163 (a := 0) (b := 16) (fd_r fcX6_readPattern (by decide +kernel)) rfl
theorem dX6_readPattern_5 : decode cX6_readPattern 5 = .ok (.iload_n 2, 1) := dq_28 (fd_r fcX6_readPattern (by decide +kernel))
theorem dX6_readPattern_6 : decode cX6_readPattern 6 = .ok (.ifCond .lt 12, 3) := dq_155 (a := 0) (b := 12) (fd_r fcX6_readPattern (by decide +kernel)) rfl
theorem dX6_readPattern_9 : decode cX6_readPattern 9 = .ok (.iload_n 2, 1) := dq_28 (fd_r fcX6_readPattern (by decide +kernel))
theorem dX6_readPattern_10 : decode cX6_readPattern 10 = .ok (.aload_n 0, 1) := dq_42 (fd_r fcX6_readPattern (by decide +kernel))
theorem dX6_readPattern_11 : decode cX6_readPattern 11 = .ok (.getfield 20, 3) := dq_180 (a := 0) (b := 20) (fd_r fcX6_readPattern (by decide +kernel)) rfl
theorem dX6_readPattern_14 : decode cX6_readPattern 14 = .ok (.arraylength, 1) := dq_190 (fd_r fcX6_readPattern (by decide +kernel))
theorem dX6_readPattern_15 : decode cX6_readPattern 15 = .ok (.if_icmp .lt 8, 3) := dq_161 (a := 0) (b := 8) (fd_r fcX6_readPattern (by decide +kernel)) rfl
theorem dX6_readPattern_23 : decode cX6_readPattern 23 = .ok (.aload_n 0, 1) := dq_42 (fd_r fcX6_readPattern (by decide +kernel))
theorem dX6_readPattern_24 : decode cX6_readPattern 24 = .ok (.getfield 20, 3) := dq_180 (a := 0) (b := 20) (fd_r fcX6_readPattern (by decide +kernel)) rfl
theorem dX6_readPattern_27 : decode cX6_readPattern 27 = .ok (.iload_n 2, 1) := dq_28 (fd_r fcX6_readPattern (by decide +kernel))
theorem dX6_readPattern_28 : decode cX6_readPattern 28 = .ok (.aaload, 1) := dq_50 (fd_r fcX6_readPattern (by decide +kernel))
theorem dX6_readPattern_29 : decode cX6_readPattern 29 = .ok (.iconst 0, 1) := dq_3 (fd_r fcX6_readPattern (by decide +kernel))
theorem dX6_readPattern_30 : decode cX6_readPattern 30 = .ok (.aload_n 0, 1) := dq_42 (fd_r fcX6_readPattern (by decide +kernel))
theorem dX6_readPattern_31 : decode cX6_readPattern 31 = .ok (.getfield 27, 3) := dq_180 (a := 0) (b := 27) (fd_r fcX6_readPattern (by decide +kernel)) rfl
theorem dX6_readPattern_34 : decode cX6_readPattern 34 = .ok (.getfield 108, 3) := dq_180 (a := 0) (b := 108) (fd_r fcX6_readPattern (by decide +kernel)) rfl
theorem dX6_readPattern_37 : decode cX6_readPattern 37 = .ok (.iload_n 1, 1) := dq_27 (fd_r fcX6_readPattern (by decide +kernel))
theorem dX6_readPattern_38 : decode cX6_readPattern 38 = .ok (.invokevirtual 146, 3) := dq_182 (a := 0) (b := 146) (fd_r fcX6_readPattern (by decide +kernel)) rfl
theorem dX6_readPattern_41 : decode cX6_readPattern 41 = .ok (.iconst 1, 1) := dq_4 (fd_r fcX6_readPattern (by decide +kernel))
theorem dX6_readPattern_42 : decode cX6_readPattern 42 = .ok (.isub, 1) := dq_100 (fd_r fcX6_readPattern (by decide +kernel))
theorem dX6_readPattern_43 : decode cX6_readPattern 43 = .ok (.iconst 0, 1) := dq_3 (fd_r fcX6_readPattern (by decide +kernel))
theorem dX6_readPattern_44 : decode cX6_readPattern 44 = .ok (.invokestatic 174, 3) := dq_184 (a := 0) (b := 174) (fd_r fcX6_readPattern (by decide +kernel)) rfl
theorem dX6_readPattern_47 : decode cX6_readPattern 47 = .ok (.iconst 0, 1) := dq_3 (fd_r fcX6_readPattern (by decide +kernel))
theorem dX6_readPattern_48 : decode cX6_readPattern 48 = .ok (.istore 4, 2) := dq_54 (a := 4) (fd_r fcX6_readPattern (by decide +kernel))
theorem dX6_readPattern_50 : decode cX6_readPattern 50 = .ok (.iload 4, 2) := dq_21 (a := 4) (fd_r fcX6_readPattern (by decide +kernel))
theorem dX6_readPattern_52 : decode cX6_readPattern 52 = .ok (.sipush 1600, 3) := dq_17 (a := 6) (b := 64) (fd_r fcX6_readPattern (by decide +kernel)) rfl
theorem dX6_readPattern_55 : decode cX6_readPattern 55 = .ok (.if_icmp .gt 59, 3) := dq_163 (a := 0) (b := 59) (fd_r fcX6_readPattern (by decide +kernel)) rfl
theorem dX6_readPattern_58 : decode cX6_readPattern 58 = .ok (.iload_n 1, 1) := dq_27 (fd_r fcX6_readPattern (by decide +kernel))
theorem dX6_readPattern_59 : decode cX6_readPattern 59 = .ok (.iconst (-1), 1) := dq_2 (fd_r fcX6_readPattern (by decide +kernel))
theorem dX6_readPattern_60 : decode cX6_readPattern 60 = .ok (.if_icmp .ne 11, 3) := dq_160 (a := 0) (b := 11) (fd_r fcX6_readPattern (by decide +kernel)) rfl
theorem dX6_readPattern_63 : decode cX6_readPattern 63 = .ok (.aload_n 0, 1) := dq_42 (fd_r fcX6_readPattern (by decide +kernel))
theorem dX6_readPattern_64 : decode cX6_readPattern 64 = .ok (.iload_n 2, 1) := dq_28 (fd_r fcX6_readPattern (by decide +kernel))
theorem dX6_readPattern_65 : decode cX6_readPattern 65 = .ok (.invokevirtual 178, 3) := dq_182 (a := 0) (b := 178) (fd_r fcX6_readPattern (by decide +kernel)) rfl
theorem dX6_readPattern_68 : decode cX6_readPattern 68 = .ok (.goto 10, 3) := dq_167 (a := 0) (b := 10) (fd_r fcX6_readPattern (by decide +kernel)) rfl
theorem dX6_readPattern_71 : decode cX6_readPattern 71 = .ok (.aload_n 0, 1) := dq_42 (fd_r fcX6_readPattern (by decide +kernel))
theorem dX6_readPattern_72 : decode cX6_readPattern 72 = .ok (.iload_n 1, 1) := dq_27 (fd_r fcX6_readPattern (by decide +kernel))
theorem dX6_readPattern_73 : decode cX6_readPattern 73 = .ok (.iload_n 2, 1) := dq_28 (fd_r fcX6_readPattern (by decide +kernel))
theorem dX6_readPattern_74 : decode cX6_readPattern 74 = .ok (.iload_n 3, 1) := dq_29 (fd_r fcX6_readPattern (by decide +kernel))
theorem dX6_readPattern_75 : decode cX6_readPattern 75 = .ok (.invokestatic 181, 3) := dq_184 (a := 0) (b := 181) (fd_r fcX6_readPattern (by decide +kernel)) rfl
theorem dX6_readPattern_78 : decode cX6_readPattern 78 = .ok (.istore 5, 2) := dq_54 (a := 5) (fd_r fcX6_readPattern (by decide +kernel))
theorem dX6_readPattern_80 : decode cX6_readPattern 80 = .ok (.iload 5, 2) := dq_21 (a := 5) (fd_r fcX6_readPattern (by decide +kernel))
theorem dX6_readPattern_82 : decode cX6_readPattern 82 = .ok (.ifCond .ne 5, 3) := dq_154 (a := 0) (b := 5) (fd_r fcX6_readPattern (by decide +kernel)) rfl
theorem dX6_readPattern_85 : decode cX6_readPattern 85 = .ok (.iconst 0, 1) := dq_3 (fd_r fcX6_readPattern (by decide +kernel))
theorem dX6_readPattern_86 : decode cX6_readPattern 86 = .ok (.ireturn, 1) := dq_172 (fd_r fcX6_readPattern (by decide +kernel))
theorem dX6_readPattern_87 : decode cX6_readPattern 87 = .ok (.aload_n 0, 1) := dq_42 (fd_r fcX6_readPattern (by decide +kernel))
theorem dX6_readPattern_88 : decode cX6_readPattern 88 = .ok (.getfield 12, 3) := dq_180 (a := 0) (b := 12) (fd_r fcX6_readPattern (by decide +kernel)) rfl
theorem dX6_readPattern_91 : decode cX6_readPattern 91 = .ok (.getfield 43, 3) := dq_180 (a := 0) (b := 43) (fd_r fcX6_readPattern (by decide +kernel)) rfl
theorem dX6_readPattern_94 : decode cX6_readPattern 94 = .ok (.bipush 9, 2) := dq_16 (a := 9) (fd_r fcX6_readPattern (by decide +kernel)) rfl
theorem dX6_readPattern_96 : decode cX6_readPattern 96 = .ok (.if_icmp .eq 5, 3) := dq_159 (a := 0) (b := 5) (fd_r fcX6_readPattern (by decide +kernel)) rfl
theorem dX6_readPattern_99 : decode cX6_readPattern 99 = .ok (.iconst 1, 1) := dq_4 (fd_r fcX6_readPattern (by decide +kernel))
theorem dX6_readPattern_100 : decode cX6_readPattern 100 = .ok (.ireturn, 1) := dq_172 (fd_r fcX6_readPattern (by decide +kernel))
theorem dX6_readPattern_101 : decode cX6_readPattern 101 = .ok (.aload_n 0, 1) := dq_42 (fd_r fcX6_readPattern (by decide +kernel))
theorem dX6_readPattern_102 : decode cX6_readPattern 102 = .ok (.getfield 12, 3) := dq_180 (a := 0) (b := 12) (fd_r fcX6_readPattern (by decide +kernel)) rfl
theorem dX6_readPattern_105 : decode cX6_readPattern 105 = .ok (.invokevirtual 92, 3) := dq_182 (a := 0) (b := 92) (fd_r fcX6_readPattern (by decide +kernel)) rfl
theorem dX6_readPattern_108 : decode cX6_readPattern 108 = .ok (.iinc 4 1, 3) := dq_132 (a := 4) (b := 1) (fd_r fcX6_readPattern (by decide +kernel)) rfl
theorem dX6_readPattern_111 : decode cX6_readPattern 111 = .ok (.goto (-61), 3) := dq_167 (a := 255) (b := 195) (fd_r fcX6_readPattern (by decide +kernel)) rfl
theorem dX6_readRange_0 : decode cX6_readRange 0 = .ok (.aload_n 0, 1) := dq_42 (fd_r fcX6_readRange (by decide +kernel))
theorem dX6_readRange_1 : decode cX6_readRange 1 = .ok (.getfield 12, 3) := dq_180 (a := 0) (b := 12) (fd_r fcX6_readRange (by decide +kernel)) rfl
theorem dX6_readRange_4 : decode cX6_readRange 4 = .ok (.getfield 43, 3) := dq_180 (a := 0) (b := 43) (fd_r fcX6_readRange (by decide +kernel)) rfl
theorem dX6_readRange_7 : decode cX6_readRange 7 = .ok (.bipush 8, 2) := dq_16 (a := 8) (fd_r fcX6_readRange (by decide +kernel)) rfl
theorem dX6_readRange_9 : decode cX6_readRange 9 = .ok (.if_icmp .ne 25, 3) := dq_160 (a := 0) (b := 25) (fd_r fcX6_readRange (by decide +kernel)) rfl
theorem dX6_readRange_12 : decode cX6_readRange 12 = .ok (.aload_n 0, 1) := dq_42 (fd_r fcX6_readRange (by decide +kernel))
theorem dX6_readRange_13 : decode cX6_readRange 13 = .ok (.getfield 20, 3) := dq_180 (a := 0) (b := 20) (fd_r fcX6_readRange (by decide +kernel)) rfl
theorem dX6_readRange_16 : decode cX6_readRange 16 = .ok (.iload_n 1, 1) := dq_27 (fd_r fcX6_readRange (by decide +kernel))
theorem dX6_readRange_17 : decode cX6_readRange 17 = .ok (.aaload, 1) := dq_50 (fd_r fcX6_readRange (by decide +kernel))
theorem dX6_readRange_18 : decode cX6_readRange 18 = .ok (.iconst 0, 1) := dq_3 (fd_r fcX6_readRange (by decide +kernel))
theorem dX6_readRange_19 : decode cX6_readRange 19 = .ok (.bipush 19, 2) := dq_16 (a := 19) (fd_r fcX6_readRange (by decide +kernel)) rfl
theorem dX6_readRange_21 : decode cX6_readRange 21 = .ok (.iconst 1, 1) := dq_4 (fd_r fcX6_readRange (by decide +kernel))
theorem dX6_readRange_22 : decode cX6_readRange 22 = .ok (.invokestatic 174, 3) := dq_184 (a := 0) (b := 174) (fd_r fcX6_readRange (by decide +kernel)) rfl
theorem dX6_readRange_25 : decode cX6_readRange 25 = .ok (.aload_n 0, 1) := dq_42 (fd_r fcX6_readRange (by decide +kernel))
theorem dX6_readRange_26 : decode cX6_readRange 26 = .ok (.getfield 12, 3) := dq_180 (a := 0) (b := 12) (fd_r fcX6_readRange (by decide +kernel)) rfl
theorem dX6_readRange_29 : decode cX6_readRange 29 = .ok (.invokevirtual 92, 3) := dq_182 (a := 0) (b := 92) (fd_r fcX6_readRange (by decide +kernel)) rfl
theorem dX6_readRange_32 : decode cX6_readRange 32 = .ok (.iconst 1, 1) := dq_4 (fd_r fcX6_readRange (by decide +kernel))
theorem dX6_readRange_33 : decode cX6_readRange 33 = .ok (.ireturn, 1) := dq_172 (fd_r fcX6_readRange (by decide +kernel))
theorem dX6_readRange_34 : decode cX6_readRange 34 = .ok (.aload_n 0, 1) := dq_42 (fd_r fcX6_readRange (by decide +kernel))
theorem dX6_readRange_35 : decode cX6_readRange 35 = .ok (.iconst 0, 1) := dq_3 (fd_r fcX6_readRange (by decide +kernel))
theorem dX6_readRange_36 : decode cX6_readRange 36 = .ok (.bipush 19, 2) := dq_16 (a := 19) (fd_r fcX6_readRange (by decide +kernel)) rfl
theorem dX6_readRange_38 : decode cX6_readRange 38 = .ok (.invokevirtual 98, 3) := dq_182 (a := 0) (b := 98) (fd_r fcX6_readRange (by decide +kernel)) rfl
theorem dX6_readRange_41 : decode cX6_readRange 41 = .ok (.istore_n 2, 1) := dq_61 (fd_r fcX6_readRange (by decide +kernel))
theorem dX6_readRange_42 : decode cX6_readRange 42 = .ok (.iload_n 2, 1) := dq_28 (fd_r fcX6_readRange (by decide +kernel))
theorem dX6_readRange_43 : decode cX6_readRange 43 = .ok (.iconst (-1), 1) := dq_2 (fd_r fcX6_readRange (by decide +kernel))
theorem dX6_readRange_44 : decode cX6_readRange 44 = .ok (.if_icmp .ne 5, 3) := dq_160 (a := 0) (b := 5) (fd_r fcX6_readRange (by decide +kernel)) rfl
theorem dX6_readRange_47 : decode cX6_readRange 47 = .ok (.iconst 0, 1) := dq_3 (fd_r fcX6_readRange (by decide +kernel))
theorem dX6_readRange_48 : decode cX6_readRange 48 = .ok (.ireturn, 1) := dq_172 (fd_r fcX6_readRange (by decide +kernel))
theorem dX6_readRange_49 : decode cX6_readRange 49 = .ok (.iload_n 2, 1) := dq_28 (fd_r fcX6_readRange (by decide +kernel))
theorem dX6_readRange_50 : decode cX6_readRange 50 = .ok (.istore_n 3, 1) := dq_62 (fd_r fcX6_readRange (by decide +kernel))
theorem dX6_readRange_51 : decode cX6_readRange 51 = .ok (.aload_n 0, 1) := dq_42 (fd_r fcX6_readRange (by decide +kernel))
theorem dX6_readRange_52 : decode cX6_readRange 52 = .ok (.getfield 12, 3) := dq_180 (a := 0) (b := 12) (fd_r fcX6_readRange (by decide +kernel)) rfl
theorem dX6_readRange_55 : decode cX6_readRange 55 = .ok (.getfield 43, 3) := dq_180 (a := 0) (b := 43) (fd_r fcX6_readRange (by decide +kernel)) rfl
theorem dX6_readRange_58 : decode cX6_readRange 58 = .ok (.bipush 10, 2) := dq_16 (a := 10) (fd_r fcX6_readRange (by decide +kernel)) rfl
theorem dX6_readRange_60 : decode cX6_readRange 60 = .ok (.if_icmp .ne 25, 3) := dq_160 (a := 0) (b := 25) (fd_r fcX6_readRange (by decide +kernel)) rfl
theorem dX6_readRange_63 : decode cX6_readRange 63 = .ok (.aload_n 0, 1) := dq_42 (fd_r fcX6_readRange (by decide +kernel))
theorem dX6_readRange_64 : decode cX6_readRange 64 = .ok (.getfield 12, 3) := dq_180 (a := 0) (b := 12) (fd_r fcX6_readRange (by decide +kernel)) rfl
theorem dX6_readRange_67 : decode cX6_readRange 67 = .ok (.invokevirtual 92, 3) := dq_182 (a := 0) (b := 92) (fd_r fcX6_readRange (by decide +kernel)) rfl
theorem dX6_readRange_70 : decode cX6_readRange 70 = .ok (.aload_n 0, 1) := dq_42 (fd_r fcX6_readRange (by decide +kernel))
theorem dX6_readRange_71 : decode cX6_readRange 71 = .ok (.iload_n 2, 1) := dq_28 (fd_r fcX6_readRange (by decide +kernel))
theorem dX6_readRange_72 : decode cX6_readRange 72 = .ok (.bipush 19, 2) := dq_16 (a := 19) (fd_r fcX6_readRange (by decide +kernel)) rfl
theorem dX6_readRange_74 : decode cX6_readRange 74 = .ok (.invokevirtual 98, 3) := dq_182 (a := 0) (b := 98) (fd_r fcX6_readRange (by decide +kernel)) rfl
theorem dX6_readRange_77 : decode cX6_readRange 77 = .ok (.istore_n 3, 1) := dq_62 (fd_r fcX6_readRange (by decide +kernel))
theorem dX6_readRange_78 : decode cX6_readRange 78 = .ok (.iload_n 3, 1) := dq_29 (fd_r fcX6_readRange (by decide +kernel))
theorem dX6_readRange_79 : decode cX6_readRange 79 = .ok (.iconst (-1), 1) := dq_2 (fd_r fcX6_readRange (by decide +kernel))
theorem dX6_readRange_80 : decode cX6_readRange 80 = .ok (.if_icmp .ne 5, 3) := dq_160 (a := 0) (b := 5) (fd_r fcX6_readRange (by decide +kernel)) rfl
theorem dX6_readRange_83 : decode cX6_readRange 83 = .ok (.iconst 0, 1) := dq_3 (fd_r fcX6_readRange (by decide +kernel))
theorem dX6_readRange_84 : decode cX6_readRange 84 = .ok (.ireturn, 1) := dq_172 (fd_r fcX6_readRange (by decide +kernel))
theorem dX6_readRange_85 : decode cX6_readRange 85 = .ok (.aload_n 0, 1) := dq_42 (fd_r fcX6_readRange (by decide +kernel))
theorem dX6_readRange_86 : decode cX6_readRange 86 = .ok (.getfield 20, 3) := dq_180 (a := 0) (b := 20) (fd_r fcX6_readRange (by decide +kernel)) rfl
theorem dX6_readRange_89 : decode cX6_readRange 89 = .ok (.iload_n 1, 1) := dq_27 (fd_r fcX6_readRange (by decide +kernel))
theorem dX6_readRange_90 : decode cX6_readRange 90 = .ok (.aaload, 1) := dq_50 (fd_r fcX6_readRange (by decide +kernel))
theorem dX6_readRange_91 : decode cX6_readRange 91 = .ok (.iload_n 2, 1) := dq_28 (fd_r fcX6_readRange (by decide +kernel))
theorem dX6_readRange_92 : decode cX6_readRange 92 = .ok (.iload_n 3, 1) := dq_29 (fd_r fcX6_readRange (by decide +kernel))
theorem dX6_readRange_93 : decode cX6_readRange 93 = .ok (.iconst 1, 1) := dq_4 (fd_r fcX6_readRange (by decide +kernel))
theorem dX6_readRange_94 : decode cX6_readRange 94 = .ok (.invokestatic 174, 3) := dq_184 (a := 0) (b := 174) (fd_r fcX6_readRange (by decide +kernel)) rfl
theorem dX6_readRange_97 : decode cX6_readRange 97 = .ok (.iconst 1, 1) := dq_4 (fd_r fcX6_readRange (by decide +kernel))
theorem dX6_readRange_98 : decode cX6_readRange 98 = .ok (.ireturn, 1) := dq_172 (fd_r fcX6_readRange (by decide +kernel))
theorem dX6_readCase_0 : decode cX6_readCase 0 = .ok (.aload_n 0, 1) := dq_42 (fd_r fcX6_readCase (by decide +kernel))
theorem dX6_readCase_1 : decode cX6_readCase 1 = .ok (.getfield 27, 3) := dq_180 (a := 0) (b := 27) (fd_r fcX6_readCase (by decide +kernel)) rfl
theorem dX6_readCase_4 : decode cX6_readCase 4 = .ok (.getfield 108, 3) := dq_180 (a := 0) (b := 108) (fd_r fcX6_readCase (by decide +kernel)) rfl
theorem dX6_readCase_7 : decode cX6_readCase 7 = .ok (.astore 4, 2) := dq_58 (a := 4) (fd_r fcX6_readCase (by decide +kernel))
theorem dX6_readCase_9 : decode cX6_readCase 9 = .ok (.aload_n 0, 1) := dq_42 (fd_r fcX6_readCase (by decide +kernel))
theorem dX6_readCase_10 : decode cX6_readCase 10 = .ok (.getfield 12, 3) := dq_180 (a := 0) (b := 12) (fd_r fcX6_readCase (by decide +kernel)) rfl
theorem dX6_readCase_13 : decode cX6_readCase 13 = .ok (.getfield 43, 3) := dq_180 (a := 0) (b := 43) (fd_r fcX6_readCase (by decide +kernel)) rfl
theorem dX6_readCase_16 : decode cX6_readCase 16 = .ok (.bipush 8, 2) := dq_16 (a := 8) (fd_r fcX6_readCase (by decide +kernel)) rfl
theorem dX6_readCase_18 : decode cX6_readCase 18 = .ok (.if_icmp .ne 31, 3) := dq_160 (a := 0) (b := 31) (fd_r fcX6_readCase (by decide +kernel)) rfl
theorem dX6_readCase_21 : decode cX6_readCase 21 = .ok (.aload_n 0, 1) := dq_42 (fd_r fcX6_readCase (by decide +kernel))
theorem dX6_readCase_22 : decode cX6_readCase 22 = .ok (.getfield 20, 3) := dq_180 (a := 0) (b := 20) (fd_r fcX6_readCase (by decide +kernel)) rfl
theorem dX6_readCase_25 : decode cX6_readCase 25 = .ok (.iload_n 2, 1) := dq_28 (fd_r fcX6_readCase (by decide +kernel))
theorem dX6_readCase_26 : decode cX6_readCase 26 = .ok (.aaload, 1) := dq_50 (fd_r fcX6_readCase (by decide +kernel))
theorem dX6_readCase_27 : decode cX6_readCase 27 = .ok (.iconst 0, 1) := dq_3 (fd_r fcX6_readCase (by decide +kernel))
theorem dX6_readCase_28 : decode cX6_readCase 28 = .ok (.aload 4, 2) := dq_25 (a := 4) (fd_r fcX6_readCase (by decide +kernel))
theorem dX6_readCase_30 : decode cX6_readCase 30 = .ok (.iload_n 1, 1) := dq_27 (fd_r fcX6_readCase (by decide +kernel))
theorem dX6_readCase_31 : decode cX6_readCase 31 = .ok (.invokevirtual 146, 3) := dq_182 (a := 0) (b := 146) (fd_r fcX6_readCase (by decide +kernel)) rfl
theorem dX6_readCase_34 : decode cX6_readCase 34 = .ok (.iconst 1, 1) := dq_4 (fd_r fcX6_readCase (by decide +kernel))
theorem dX6_readCase_35 : decode cX6_readCase 35 = .ok (.isub, 1) := dq_100 (fd_r fcX6_readCase (by decide +kernel))
theorem dX6_readCase_36 : decode cX6_readCase 36 = .ok (.iconst 1, 1) := dq_4 (fd_r fcX6_readCase (by decide +kernel))
theorem dX6_readCase_37 : decode cX6_readCase 37 = .ok (.invokestatic 174, 3) := dq_184 (a := 0) (b := 174) (fd_r fcX6_readCase (by decide +kernel)) rfl
theorem dX6_readCase_40 : decode cX6_readCase 40 = .ok (.aload_n 0, 1) := dq_42 (fd_r fcX6_readCase (by decide +kernel))
theorem dX6_readCase_41 : decode cX6_readCase 41 = .ok (.getfield 12, 3) := dq_180 (a := 0) (b := 12) (fd_r fcX6_readCase (by decide +kernel)) rfl
theorem dX6_readCase_44 : decode cX6_readCase 44 = .ok (.invokevirtual 92, 3) := dq_182 (a := 0) (b := 92) (fd_r fcX6_readCase (by decide +kernel)) rfl
theorem dX6_readCase_47 : decode cX6_readCase 47 = .ok (.iconst 1, 1) := dq_4 (fd_r fcX6_readCase (by decide +kernel))
theorem dX6_readCase_48 : decode cX6_readCase 48 = .ok (.ireturn, 1) := dq_172 (fd_r fcX6_readCase (by decide +kernel))
theorem dX6_readCase_49 : decode cX6_readCase 49 = .ok (.aload_n 0, 1) := dq_42 (fd_r fcX6_readCase (by decide +kernel))
theorem dX6_readCase_50 : decode cX6_readCase 50 = .ok (.iload_n 1, 1) := dq_27 (fd_r fcX6_readCase (by decide +kernel))
theorem dX6_readCase_51 : decode cX6_readCase 51 = .ok (.invokevirtual 184, 3) := dq_182 (a := 0) (b := 184) (fd_r fcX6_readCase (by decide +kernel)) rfl
theorem dX6_readCase_54 : decode cX6_readCase 54 = .ok (.istore 5, 2) := dq_54 (a := 5) (fd_r fcX6_readCase (by decide +kernel))
theorem dX6_readCase_56 : decode cX6_readCase 56 = .ok (.iload 5, 2) := dq_21 (a := 5) (fd_r fcX6_readCase (by decide +kernel))
theorem dX6_readCase_58 : decode cX6_readCase 58 = .ok (.iconst (-1), 1) := dq_2 (fd_r fcX6_readCase (by decide +kernel))
theorem dX6_readCase_59 : decode cX6_readCase 59 = .ok (.if_icmp .ne 5, 3) := dq_160 (a := 0) (b := 5) (fd_r fcX6_readCase (by decide +kernel)) rfl
theorem dX6_readCase_62 : decode cX6_readCase 62 = .ok (.iconst 0, 1) := dq_3 (fd_r fcX6_readCase (by decide +kernel))
theorem dX6_readCase_63 : decode cX6_readCase 63 = .ok (.ireturn, 1) := dq_172 (fd_r fcX6_readCase (by decide +kernel))
theorem dX6_readCase_64 : decode cX6_readCase 64 = .ok (.aload 4, 2) := dq_25 (a := 4) (fd_r fcX6_readCase (by decide +kernel))
theorem dX6_readCase_66 : decode cX6_readCase 66 = .ok (.getfield 187, 3) := dq_180 (a := 0) (b := 187) (fd_r fcX6_readCase (by decide +kernel)) rfl
theorem dX6_readCase_69 : decode cX6_readCase 69 = .ok (.iload 5, 2) := dq_21 (a := 5) (fd_r fcX6_readCase (by decide +kernel))
theorem dX6_readCase_71 : decode cX6_readCase 71 = .ok (.iaload, 1) := dq_46 (fd_r fcX6_readCase (by decide +kernel))
theorem dX6_readCase_72 : decode cX6_readCase 72 = .ok (.ifCond .ne 31, 3) := dq_154 (a := 0) (b := 31) (fd_r fcX6_readCase (by decide +kernel)) rfl
theorem dX6_readCase_75 : decode cX6_readCase 75 = .ok (.aload_n 0, 1) := dq_42 (fd_r fcX6_readCase (by decide +kernel))
theorem dX6_readCase_76 : decode cX6_readCase 76 = .ok (.getfield 20, 3) := dq_180 (a := 0) (b := 20) (fd_r fcX6_readCase (by decide +kernel)) rfl
theorem dX6_readCase_79 : decode cX6_readCase 79 = .ok (.iload_n 2, 1) := dq_28 (fd_r fcX6_readCase (by decide +kernel))
theorem dX6_readCase_80 : decode cX6_readCase 80 = .ok (.aaload, 1) := dq_50 (fd_r fcX6_readCase (by decide +kernel))
theorem dX6_readCase_81 : decode cX6_readCase 81 = .ok (.aload 4, 2) := dq_25 (a := 4) (fd_r fcX6_readCase (by decide +kernel))
theorem dX6_readCase_83 : decode cX6_readCase 83 = .ok (.getfield 190, 3) := dq_180 (a := 0) (b := 190) (fd_r fcX6_readCase (by decide +kernel)) rfl
theorem dX6_readCase_86 : decode cX6_readCase 86 = .ok (.iload 5, 2) := dq_21 (a := 5) (fd_r fcX6_readCase (by decide +kernel))
theorem dX6_readCase_88 : decode cX6_readCase 88 = .ok (.iaload, 1) := dq_46 (fd_r fcX6_readCase (by decide +kernel))
theorem dX6_readCase_89 : decode cX6_readCase 89 = .ok (.aload 4, 2) := dq_25 (a := 4) (fd_r fcX6_readCase (by decide +kernel))
theorem dX6_readCase_91 : decode cX6_readCase 91 = .ok (.getfield 190, 3) := dq_180 (a := 0) (b := 190) (fd_r fcX6_readCase (by decide +kernel)) rfl
theorem dX6_readCase_94 : decode cX6_readCase 94 = .ok (.iload 5, 2) := dq_21 (a := 5) (fd_r fcX6_readCase (by decide +kernel))
theorem dX6_readCase_96 : decode cX6_readCase 96 = .ok (.iaload, 1) := dq_46 (fd_r fcX6_readCase (by decide +kernel))
theorem dX6_readCase_97 : decode cX6_readCase 97 = .ok (.iconst 1, 1) := dq_4 (fd_r fcX6_readCase (by decide +kernel))
theorem dX6_readCase_98 : decode cX6_readCase 98 = .ok (.invokestatic 174, 3) := dq_184 (a := 0) (b := 174) (fd_r fcX6_readCase (by decide +kernel)) rfl
theorem dX6_readCase_101 : decode cX6_readCase 101 = .ok (.iconst 1, 1) := dq_4 (fd_r fcX6_readCase (by decide +kernel))
theorem dX6_readCase_102 : decode cX6_readCase 102 = .ok (.ireturn, 1) := dq_172 (fd_r fcX6_readCase (by decide +kernel))
theorem dX6_readCase_103 : decode cX6_readCase 103 = .ok (.iconst 2, 1) := dq_5 (fd_r fcX6_readCase (by decide +kernel))
theorem dX6_readCase_104 : decode cX6_readCase 104 = .ok (.iload_n 3, 1) := dq_29 (fd_r fcX6_readCase (by decide +kernel))
theorem dX6_readCase_105 : decode cX6_readCase 105 = .ok (.iconst 1, 1) := dq_4 (fd_r fcX6_readCase (by decide +kernel))
theorem dX6_readCase_106 : decode cX6_readCase 106 = .ok (.iadd, 1) := dq_96 (fd_r fcX6_readCase (by decide +kernel))
theorem dX6_readCase_107 : decode cX6_readCase 107 = .ok (.imul, 1) := dq_104 (fd_r fcX6_readCase (by decide +kernel))
theorem dX6_readCase_108 : decode cX6_readCase 108 = .ok (.istore 6, 2) := dq_54 (a := 6) (fd_r fcX6_readCase (by decide +kernel))
theorem dX6_readCase_110 : decode cX6_readCase 110 = .ok (.aload_n 0, 1) := dq_42 (fd_r fcX6_readCase (by decide +kernel))
theorem dX6_readCase_111 : decode cX6_readCase 111 = .ok (.bipush 40, 2) := dq_16 (a := 40) (fd_r fcX6_readCase (by decide +kernel)) rfl
theorem dX6_readCase_113 : decode cX6_readCase 113 = .ok (.invokevirtual 68, 3) := dq_182 (a := 0) (b := 68) (fd_r fcX6_readCase (by decide +kernel)) rfl
theorem dX6_readCase_116 : decode cX6_readCase 116 = .ok (.ifCond .eq 23, 3) := dq_153 (a := 0) (b := 23) (fd_r fcX6_readCase (by decide +kernel)) rfl
theorem dX6_readCase_119 : decode cX6_readCase 119 = .ok (.aload_n 0, 1) := dq_42 (fd_r fcX6_readCase (by decide +kernel))
theorem dX6_readCase_120 : decode cX6_readCase 120 = .ok (.aload 4, 2) := dq_25 (a := 4) (fd_r fcX6_readCase (by decide +kernel))
theorem dX6_readCase_122 : decode cX6_readCase 122 = .ok (.getfield 193, 3) := dq_180 (a := 0) (b := 193) (fd_r fcX6_readCase (by decide +kernel)) rfl
theorem dX6_readCase_125 : decode cX6_readCase 125 = .ok (.iload 5, 2) := dq_21 (a := 5) (fd_r fcX6_readCase (by decide +kernel))
theorem dX6_readCase_127 : decode cX6_readCase 127 = .ok (.iaload, 1) := dq_46 (fd_r fcX6_readCase (by decide +kernel))
theorem dX6_readCase_128 : decode cX6_readCase 128 = .ok (.iload 6, 2) := dq_21 (a := 6) (fd_r fcX6_readCase (by decide +kernel))
theorem dX6_readCase_130 : decode cX6_readCase 130 = .ok (.iload_n 3, 1) := dq_29 (fd_r fcX6_readCase (by decide +kernel))
theorem dX6_readCase_131 : decode cX6_readCase 131 = .ok (.iconst 1, 1) := dq_4 (fd_r fcX6_readCase (by decide +kernel))
theorem dX6_readCase_132 : decode cX6_readCase 132 = .ok (.iadd, 1) := dq_96 (fd_r fcX6_readCase (by decide +kernel))
theorem dX6_readCase_133 : decode cX6_readCase 133 = .ok (.invokestatic 163, 3) := dq_184 (a := 0) (b := 163) (fd_r fcX6_readCase (by decide +kernel)) rfl
theorem dX6_readCase_136 : decode cX6_readCase 136 = .ok (.ifCond .ne 5, 3) := dq_154 (a := 0) (b := 5) (fd_r fcX6_readCase (by decide +kernel)) rfl
theorem dX6_readCase_139 : decode cX6_readCase 139 = .ok (.iconst 0, 1) := dq_3 (fd_r fcX6_readCase (by decide +kernel))
theorem dX6_readCase_140 : decode cX6_readCase 140 = .ok (.ireturn, 1) := dq_172 (fd_r fcX6_readCase (by decide +kernel))
theorem dX6_readCase_141 : decode cX6_readCase 141 = .ok (.aload 4, 2) := dq_25 (a := 4) (fd_r fcX6_readCase (by decide +kernel))
theorem dX6_readCase_143 : decode cX6_readCase 143 = .ok (.getfield 187, 3) := dq_180 (a := 0) (b := 187) (fd_r fcX6_readCase (by decide +kernel)) rfl
theorem dX6_readCase_146 : decode cX6_readCase 146 = .ok (.iload 5, 2) := dq_21 (a := 5) (fd_r fcX6_readCase (by decide +kernel))
theorem dX6_readCase_148 : decode cX6_readCase 148 = .ok (.iaload, 1) := dq_46 (fd_r fcX6_readCase (by decide +kernel))
theorem dX6_readCase_149 : decode cX6_readCase 149 = .ok (.iconst 2, 1) := dq_5 (fd_r fcX6_readCase (by decide +kernel))
theorem dX6_readCase_150 : decode cX6_readCase 150 = .ok (.if_icmp .ne 36, 3) := dq_160 (a := 0) (b := 36) (fd_r fcX6_readCase (by decide +kernel)) rfl
theorem dX6_readCase_153 : decode cX6_readCase 153 = .ok (.aload_n 0, 1) := dq_42 (fd_r fcX6_readCase (by decide +kernel))
theorem dX6_readCase_154 : decode cX6_readCase 154 = .ok (.bipush 44, 2) := dq_16 (a := 44) (fd_r fcX6_readCase (by decide +kernel)) rfl
theorem dX6_readCase_156 : decode cX6_readCase 156 = .ok (.invokevirtual 68, 3) := dq_182 (a := 0) (b := 68) (fd_r fcX6_readCase (by decide +kernel)) rfl
theorem dX6_readCase_159 : decode cX6_readCase 159 = .ok (.ifCond .eq 25, 3) := dq_153 (a := 0) (b := 25) (fd_r fcX6_readCase (by decide +kernel)) rfl
theorem dX6_readCase_162 : decode cX6_readCase 162 = .ok (.aload_n 0, 1) := dq_42 (fd_r fcX6_readCase (by decide +kernel))
theorem dX6_readCase_163 : decode cX6_readCase 163 = .ok (.aload 4, 2) := dq_25 (a := 4) (fd_r fcX6_readCase (by decide +kernel))
theorem dX6_readCase_165 : decode cX6_readCase 165 = .ok (.getfield 196, 3) := dq_180 (a := 0) (b := 196) (fd_r fcX6_readCase (by decide +kernel)) rfl
theorem dX6_readCase_168 : decode cX6_readCase 168 = .ok (.iload 5, 2) := dq_21 (a := 5) (fd_r fcX6_readCase (by decide +kernel))
theorem dX6_readCase_170 : decode cX6_readCase 170 = .ok (.iaload, 1) := dq_46 (fd_r fcX6_readCase (by decide +kernel))
theorem dX6_readCase_171 : decode cX6_readCase 171 = .ok (.iload 6, 2) := dq_21 (a := 6) (fd_r fcX6_readCase (by decide +kernel))
theorem dX6_readCase_173 : decode cX6_readCase 173 = .ok (.iconst 1, 1) := dq_4 (fd_r fcX6_readCase (by decide +kernel))
theorem dX6_readCase_174 : decode cX6_readCase 174 = .ok (.iadd, 1) := dq_96 (fd_r fcX6_readCase (by decide +kernel))
theorem dX6_readCase_175 : decode cX6_readCase 175 = .ok (.iload_n 3, 1) := dq_29 (fd_r fcX6_readCase (by decide +kernel))
theorem dX6_readCase_176 : decode cX6_readCase 176 = .ok (.iconst 1, 1) := dq_4 (fd_r fcX6_readCase (by decide +kernel))
theorem dX6_readCase_177 : decode cX6_readCase 177 = .ok (.iadd, 1) := dq_96 (fd_r fcX6_readCase (by decide +kernel))
theorem dX6_readCase_178 : decode cX6_readCase 178 = .ok (.invokestatic 163, 3) := dq_184 (a := 0) (b := 163) (fd_r fcX6_readCase (by decide +kernel)) rfl
theorem dX6_readCase_181 : decode cX6_readCase 181 = .ok (.ifCond .ne 5, 3) := dq_154 (a := 0) (b := 5) (fd_r fcX6_readCase (by decide +kernel)) rfl
theorem dX6_readCase_184 : decode cX6_readCase 184 = .ok (.iconst 0, 1) := dq_3 (fd_r fcX6_readCase (by decide +kernel))
theorem dX6_readCase_185 : decode cX6_readCase 185 = .ok (.ireturn, 1) := dq_172 (fd_r fcX6_readCase (by decide +kernel))
theorem dX6_readCase_186 : decode cX6_readCase 186 = .ok (.aload_n 0, 1) := dq_42 (fd_r fcX6_readCase (by decide +kernel))
theorem dX6_readCase_187 : decode cX6_readCase 187 = .ok (.iload 5, 2) := dq_21 (a := 5) (fd_r fcX6_readCase (by decide +kernel))
theorem dX6_readCase_189 : decode cX6_readCase 189 = .ok (.iload_n 2, 1) := dq_28 (fd_r fcX6_readCase (by decide +kernel))
theorem dX6_readCase_190 : decode cX6_readCase 190 = .ok (.iload 6, 2) := dq_21 (a := 6) (fd_r fcX6_readCase (by decide +kernel))
theorem dX6_readCase_192 : decode cX6_readCase 192 = .ok (.invokevirtual 199, 3) := dq_182 (a := 0) (b := 199) (fd_r fcX6_readCase (by decide +kernel)) rfl
theorem dX6_readCase_195 : decode cX6_readCase 195 = .ok (.aload_n 0, 1) := dq_42 (fd_r fcX6_readCase (by decide +kernel))
theorem dX6_readCase_196 : decode cX6_readCase 196 = .ok (.bipush 41, 2) := dq_16 (a := 41) (fd_r fcX6_readCase (by decide +kernel)) rfl
theorem dX6_readCase_198 : decode cX6_readCase 198 = .ok (.invokevirtual 68, 3) := dq_182 (a := 0) (b := 68) (fd_r fcX6_readCase (by decide +kernel)) rfl
theorem dX6_readCase_201 : decode cX6_readCase 201 = .ok (.ireturn, 1) := dq_172 (fd_r fcX6_readCase (by decide +kernel))
theorem dX6_readConName_0 : decode cX6_readConName 0 = .ok (.aload_n 0, 1) := dq_42 (fd_r fcX6_readConName (by decide +kernel))
theorem dX6_readConName_1 : decode cX6_readConName 1 = .ok (.getfield 12, 3) := dq_180 (a := 0) (b := 12) (fd_r fcX6_readConName (by decide +kernel)) rfl
theorem dX6_readConName_4 : decode cX6_readConName 4 = .ok (.invokevirtual 123, 3) := dq_182 (a := 0) (b := 123) (fd_r fcX6_readConName (by decide +kernel)) rfl
theorem dX6_readConName_7 : decode cX6_readConName 7 = .ok (.ifCond .ne 10, 3) := dq_154 (a := 0) (b := 10) (fd_r fcX6_readConName (by decide +kernel)) rfl
theorem dX6_readConName_10 : decode cX6_readConName 10 = .ok (.aload_n 0, 1) := dq_42 (fd_r fcX6_readConName (by decide +kernel))
theorem dX6_readConName_11 : decode cX6_readConName 11 = .ok (.invokevirtual 65, 3) := dq_182 (a := 0) (b := 65) (fd_r fcX6_readConName (by decide +kernel)) rfl
theorem dX6_readConName_14 : decode cX6_readConName 14 = .ok (.pop, 1) := dq_87 (fd_r fcX6_readConName (by decide +kernel))
theorem dX6_readConName_15 : decode cX6_readConName 15 = .ok (.iconst (-1), 1) := dq_2 (fd_r fcX6_readConName (by decide +kernel))
theorem dX6_readConName_16 : decode cX6_readConName 16 = .ok (.ireturn, 1) := dq_172 (fd_r fcX6_readConName (by decide +kernel))
theorem dX6_readConName_17 : decode cX6_readConName 17 = .ok (.aload_n 0, 1) := dq_42 (fd_r fcX6_readConName (by decide +kernel))
theorem dX6_readConName_18 : decode cX6_readConName 18 = .ok (.getfield 27, 3) := dq_180 (a := 0) (b := 27) (fd_r fcX6_readConName (by decide +kernel)) rfl
theorem dX6_readConName_21 : decode cX6_readConName 21 = .ok (.getfield 108, 3) := dq_180 (a := 0) (b := 108) (fd_r fcX6_readConName (by decide +kernel)) rfl
theorem dX6_readConName_24 : decode cX6_readConName 24 = .ok (.iload_n 1, 1) := dq_27 (fd_r fcX6_readConName (by decide +kernel))
theorem dX6_readConName_25 : decode cX6_readConName 25 = .ok (.aload_n 0, 1) := dq_42 (fd_r fcX6_readConName (by decide +kernel))
theorem dX6_readConName_26 : decode cX6_readConName 26 = .ok (.getfield 12, 3) := dq_180 (a := 0) (b := 12) (fd_r fcX6_readConName (by decide +kernel)) rfl
theorem dX6_readConName_29 : decode cX6_readConName 29 = .ok (.getfield 95, 3) := dq_180 (a := 0) (b := 95) (fd_r fcX6_readConName (by decide +kernel)) rfl
theorem dX6_readConName_32 : decode cX6_readConName 32 = .ok (.invokevirtual 203, 3) := dq_182 (a := 0) (b := 203) (fd_r fcX6_readConName (by decide +kernel)) rfl
theorem dX6_readConName_35 : decode cX6_readConName 35 = .ok (.istore_n 2, 1) := dq_61 (fd_r fcX6_readConName (by decide +kernel))
theorem dX6_readConName_36 : decode cX6_readConName 36 = .ok (.iload_n 2, 1) := dq_28 (fd_r fcX6_readConName (by decide +kernel))
theorem dX6_readConName_37 : decode cX6_readConName 37 = .ok (.iconst (-1), 1) := dq_2 (fd_r fcX6_readConName (by decide +kernel))
theorem dX6_readConName_38 : decode cX6_readConName 38 = .ok (.if_icmp .ne 18, 3) := dq_160 (a := 0) (b := 18) (fd_r fcX6_readConName (by decide +kernel)) rfl
theorem dX6_readConName_41 : decode cX6_readConName 41 = .ok (.aload_n 0, 1) := dq_42 (fd_r fcX6_readConName (by decide +kernel))
theorem dX6_readConName_42 : decode cX6_readConName 42 = .ok (.iconst 3, 1) := dq_6 (fd_r fcX6_readConName (by decide +kernel))
theorem dX6_readConName_43 : decode cX6_readConName 43 = .ok (.aload_n 0, 1) := dq_42 (fd_r fcX6_readConName (by decide +kernel))
theorem dX6_readConName_44 : decode cX6_readConName 44 = .ok (.getfield 12, 3) := dq_180 (a := 0) (b := 12) (fd_r fcX6_readConName (by decide +kernel)) rfl
theorem dX6_readConName_47 : decode cX6_readConName 47 = .ok (.getfield 72, 3) := dq_180 (a := 0) (b := 72) (fd_r fcX6_readConName (by decide +kernel)) rfl
theorem dX6_readConName_50 : decode cX6_readConName 50 = .ok (.invokevirtual 75, 3) := dq_182 (a := 0) (b := 75) (fd_r fcX6_readConName (by decide +kernel)) rfl
theorem dX6_readConName_53 : decode cX6_readConName 53 = .ok (.pop, 1) := dq_87 (fd_r fcX6_readConName (by decide +kernel))
theorem dX6_readConName_54 : decode cX6_readConName 54 = .ok (.iconst (-1), 1) := dq_2 (fd_r fcX6_readConName (by decide +kernel))
theorem dX6_readConName_55 : decode cX6_readConName 55 = .ok (.ireturn, 1) := dq_172 (fd_r fcX6_readConName (by decide +kernel))
theorem dX6_readConName_56 : decode cX6_readConName 56 = .ok (.aload_n 0, 1) := dq_42 (fd_r fcX6_readConName (by decide +kernel))
theorem dX6_readConName_57 : decode cX6_readConName 57 = .ok (.getfield 12, 3) := dq_180 (a := 0) (b := 12) (fd_r fcX6_readConName (by decide +kernel)) rfl
theorem dX6_readConName_60 : decode cX6_readConName 60 = .ok (.invokevirtual 92, 3) := dq_182 (a := 0) (b := 92) (fd_r fcX6_readConName (by decide +kernel)) rfl
theorem dX6_readConName_63 : decode cX6_readConName 63 = .ok (.iload_n 2, 1) := dq_28 (fd_r fcX6_readConName (by decide +kernel))
theorem dX6_readConName_64 : decode cX6_readConName 64 = .ok (.ireturn, 1) := dq_172 (fd_r fcX6_readConName (by decide +kernel))
theorem dX6_fillCase_0 : decode cX6_fillCase 0 = .ok (.iload_n 3, 1) := dq_29 (fd_r fcX6_fillCase (by decide +kernel))
theorem dX6_fillCase_1 : decode cX6_fillCase 1 = .ok (.ifCond .lt 14, 3) := dq_155 (a := 0) (b := 14) (fd_r fcX6_fillCase (by decide +kernel)) rfl
theorem dX6_fillCase_4 : decode cX6_fillCase 4 = .ok (.iload_n 3, 1) := dq_29 (fd_r fcX6_fillCase (by decide +kernel))
theorem dX6_fillCase_5 : decode cX6_fillCase 5 = .ok (.iconst 1, 1) := dq_4 (fd_r fcX6_fillCase (by decide +kernel))
theorem dX6_fillCase_6 : decode cX6_fillCase 6 = .ok (.iadd, 1) := dq_96 (fd_r fcX6_fillCase (by decide +kernel))
theorem dX6_fillCase_7 : decode cX6_fillCase 7 = .ok (.aload_n 0, 1) := dq_42 (fd_r fcX6_fillCase (by decide +kernel))
theorem dX6_fillCase_8 : decode cX6_fillCase 8 = .ok (.getfield 20, 3) := dq_180 (a := 0) (b := 20) (fd_r fcX6_fillCase (by decide +kernel)) rfl
theorem dX6_fillCase_11 : decode cX6_fillCase 11 = .ok (.arraylength, 1) := dq_190 (fd_r fcX6_fillCase (by decide +kernel))
theorem dX6_fillCase_12 : decode cX6_fillCase 12 = .ok (.if_icmp .lt 4, 3) := dq_161 (a := 0) (b := 4) (fd_r fcX6_fillCase (by decide +kernel)) rfl
theorem dX6_fillCase_15 : decode cX6_fillCase 15 = .ok (.return_, 1) := dq_177 (fd_r fcX6_fillCase (by decide +kernel))
theorem dX6_fillCase_16 : decode cX6_fillCase 16 = .ok (.aload_n 0, 1) := dq_42 (fd_r fcX6_fillCase (by decide +kernel))
theorem dX6_fillCase_17 : decode cX6_fillCase 17 = .ok (.getfield 27, 3) := dq_180 (a := 0) (b := 27) (fd_r fcX6_fillCase (by decide +kernel)) rfl
theorem dX6_fillCase_20 : decode cX6_fillCase 20 = .ok (.getfield 108, 3) := dq_180 (a := 0) (b := 108) (fd_r fcX6_fillCase (by decide +kernel)) rfl
theorem dX6_fillCase_23 : decode cX6_fillCase 23 = .ok (.astore 4, 2) := dq_58 (a := 4) (fd_r fcX6_fillCase (by decide +kernel))
theorem dX6_fillCase_25 : decode cX6_fillCase 25 = .ok (.aload 4, 2) := dq_25 (a := 4) (fd_r fcX6_fillCase (by decide +kernel))
theorem dX6_fillCase_27 : decode cX6_fillCase 27 = .ok (.aload 4, 2) := dq_25 (a := 4) (fd_r fcX6_fillCase (by decide +kernel))
theorem dX6_fillCase_29 : decode cX6_fillCase 29 = .ok (.getfield 193, 3) := dq_180 (a := 0) (b := 193) (fd_r fcX6_fillCase (by decide +kernel)) rfl
theorem dX6_fillCase_32 : decode cX6_fillCase 32 = .ok (.iload_n 1, 1) := dq_27 (fd_r fcX6_fillCase (by decide +kernel))
theorem dX6_fillCase_33 : decode cX6_fillCase 33 = .ok (.iaload, 1) := dq_46 (fd_r fcX6_fillCase (by decide +kernel))
theorem dX6_fillCase_34 : decode cX6_fillCase 34 = .ok (.invokevirtual 146, 3) := dq_182 (a := 0) (b := 146) (fd_r fcX6_fillCase (by decide +kernel)) rfl
theorem dX6_fillCase_37 : decode cX6_fillCase 37 = .ok (.istore 5, 2) := dq_54 (a := 5) (fd_r fcX6_fillCase (by decide +kernel))
theorem dX6_fillCase_39 : decode cX6_fillCase 39 = .ok (.aload 4, 2) := dq_25 (a := 4) (fd_r fcX6_fillCase (by decide +kernel))
theorem dX6_fillCase_41 : decode cX6_fillCase 41 = .ok (.iload_n 1, 1) := dq_27 (fd_r fcX6_fillCase (by decide +kernel))
theorem dX6_fillCase_42 : decode cX6_fillCase 42 = .ok (.invokevirtual 206, 3) := dq_182 (a := 0) (b := 206) (fd_r fcX6_fillCase (by decide +kernel)) rfl
theorem dX6_fillCase_45 : decode cX6_fillCase 45 = .ok (.istore 6, 2) := dq_54 (a := 6) (fd_r fcX6_fillCase (by decide +kernel))
theorem dX6_fillCase_47 : decode cX6_fillCase 47 = .ok (.aload 4, 2) := dq_25 (a := 4) (fd_r fcX6_fillCase (by decide +kernel))
theorem dX6_fillCase_49 : decode cX6_fillCase 49 = .ok (.getfield 187, 3) := dq_180 (a := 0) (b := 187) (fd_r fcX6_fillCase (by decide +kernel)) rfl
theorem dX6_fillCase_52 : decode cX6_fillCase 52 = .ok (.iload_n 1, 1) := dq_27 (fd_r fcX6_fillCase (by decide +kernel))
theorem dX6_fillCase_53 : decode cX6_fillCase 53 = .ok (.iaload, 1) := dq_46 (fd_r fcX6_fillCase (by decide +kernel))
theorem dX6_fillCase_54 : decode cX6_fillCase 54 = .ok (.iconst 2, 1) := dq_5 (fd_r fcX6_fillCase (by decide +kernel))
theorem dX6_fillCase_55 : decode cX6_fillCase 55 = .ok (.if_icmp .ge 7, 3) := dq_162 (a := 0) (b := 7) (fd_r fcX6_fillCase (by decide +kernel)) rfl
theorem dX6_fillCase_58 : decode cX6_fillCase 58 = .ok (.iconst 1, 1) := dq_4 (fd_r fcX6_fillCase (by decide +kernel))
theorem dX6_fillCase_59 : decode cX6_fillCase 59 = .ok (.goto 4, 3) := dq_167 (a := 0) (b := 4) (fd_r fcX6_fillCase (by decide +kernel)) rfl
theorem dX6_fillCase_62 : decode cX6_fillCase 62 = .ok (.iconst 0, 1) := dq_3 (fd_r fcX6_fillCase (by decide +kernel))
theorem dX6_fillCase_63 : decode cX6_fillCase 63 = .ok (.istore 7, 2) := dq_54 (a := 7) (fd_r fcX6_fillCase (by decide +kernel))
theorem dX6_fillCase_65 : decode cX6_fillCase 65 = .ok (.iconst 0, 1) := dq_3 (fd_r fcX6_fillCase (by decide +kernel))
theorem dX6_fillCase_66 : decode cX6_fillCase 66 = .ok (.istore 8, 2) := dq_54 (a := 8) (fd_r fcX6_fillCase (by decide +kernel))
theorem dX6_fillCase_68 : decode cX6_fillCase 68 = .ok (.iload 8, 2) := dq_21 (a := 8) (fd_r fcX6_fillCase (by decide +kernel))
theorem dX6_fillCase_70 : decode cX6_fillCase 70 = .ok (.iload 5, 2) := dq_21 (a := 5) (fd_r fcX6_fillCase (by decide +kernel))
theorem dX6_fillCase_72 : decode cX6_fillCase 72 = .ok (.if_icmp .ge 110, 3) := dq_162 (a := 0) (b := 110) (fd_r fcX6_fillCase (by decide +kernel)) rfl
theorem dX6_fillCase_75 : decode cX6_fillCase 75 = .ok (.iload 8, 2) := dq_21 (a := 8) (fd_r fcX6_fillCase (by decide +kernel))
theorem dX6_fillCase_77 : decode cX6_fillCase 77 = .ok (.sipush 2048, 3) := dq_17 (a := 8) (b := 0) (fd_r fcX6_fillCase (by decide +kernel)) rfl
theorem dX6_fillCase_80 : decode cX6_fillCase 80 = .ok (.if_icmp .ge 102, 3) := dq_162 (a := 0) (b := 102) (fd_r fcX6_fillCase (by decide +kernel)) rfl
theorem dX6_fillCase_83 : decode cX6_fillCase 83 = .ok (.aload_n 0, 1) := dq_42 (fd_r fcX6_fillCase (by decide +kernel))
theorem dX6_fillCase_84 : decode cX6_fillCase 84 = .ok (.getfield 20, 3) := dq_180 (a := 0) (b := 20) (fd_r fcX6_fillCase (by decide +kernel)) rfl
theorem dX6_fillCase_87 : decode cX6_fillCase 87 = .ok (.iload_n 3, 1) := dq_29 (fd_r fcX6_fillCase (by decide +kernel))
theorem dX6_fillCase_88 : decode cX6_fillCase 88 = .ok (.aaload, 1) := dq_50 (fd_r fcX6_fillCase (by decide +kernel))
theorem dX6_fillCase_89 : decode cX6_fillCase 89 = .ok (.iload 8, 2) := dq_21 (a := 8) (fd_r fcX6_fillCase (by decide +kernel))
theorem dX6_fillCase_91 : decode cX6_fillCase 91 = .ok (.iaload, 1) := dq_46 (fd_r fcX6_fillCase (by decide +kernel))
theorem dX6_fillCase_92 : decode cX6_fillCase 92 = .ok (.ifCond .ne 6, 3) := dq_154 (a := 0) (b := 6) (fd_r fcX6_fillCase (by decide +kernel)) rfl
theorem dX6_fillCase_95 : decode cX6_fillCase 95 = .ok (.goto 81, 3) := dq_167 (a := 0) (b := 81) (fd_r fcX6_fillCase (by decide +kernel)) rfl
theorem dX6_fillCase_98 : decode cX6_fillCase 98 = .ok (.aload 4, 2) := dq_25 (a := 4) (fd_r fcX6_fillCase (by decide +kernel))
theorem dX6_fillCase_100 : decode cX6_fillCase 100 = .ok (.getfield 190, 3) := dq_180 (a := 0) (b := 190) (fd_r fcX6_fillCase (by decide +kernel)) rfl
theorem dX6_fillCase_103 : decode cX6_fillCase 103 = .ok (.iload_n 1, 1) := dq_27 (fd_r fcX6_fillCase (by decide +kernel))
theorem dX6_fillCase_104 : decode cX6_fillCase 104 = .ok (.iaload, 1) := dq_46 (fd_r fcX6_fillCase (by decide +kernel))
theorem dX6_fillCase_105 : decode cX6_fillCase 105 = .ok (.iload 8, 2) := dq_21 (a := 8) (fd_r fcX6_fillCase (by decide +kernel))
theorem dX6_fillCase_107 : decode cX6_fillCase 107 = .ok (.iload 6, 2) := dq_21 (a := 6) (fd_r fcX6_fillCase (by decide +kernel))
theorem dX6_fillCase_109 : decode cX6_fillCase 109 = .ok (.imul, 1) := dq_104 (fd_r fcX6_fillCase (by decide +kernel))
theorem dX6_fillCase_110 : decode cX6_fillCase 110 = .ok (.iadd, 1) := dq_96 (fd_r fcX6_fillCase (by decide +kernel))
theorem dX6_fillCase_111 : decode cX6_fillCase 111 = .ok (.istore 9, 2) := dq_54 (a := 9) (fd_r fcX6_fillCase (by decide +kernel))
theorem dX6_fillCase_113 : decode cX6_fillCase 113 = .ok (.iconst 0, 1) := dq_3 (fd_r fcX6_fillCase (by decide +kernel))
theorem dX6_fillCase_114 : decode cX6_fillCase 114 = .ok (.istore 10, 2) := dq_54 (a := 10) (fd_r fcX6_fillCase (by decide +kernel))
theorem dX6_fillCase_116 : decode cX6_fillCase 116 = .ok (.iload 10, 2) := dq_21 (a := 10) (fd_r fcX6_fillCase (by decide +kernel))
theorem dX6_fillCase_118 : decode cX6_fillCase 118 = .ok (.iload 6, 2) := dq_21 (a := 6) (fd_r fcX6_fillCase (by decide +kernel))
theorem dX6_fillCase_120 : decode cX6_fillCase 120 = .ok (.if_icmp .ge 56, 3) := dq_162 (a := 0) (b := 56) (fd_r fcX6_fillCase (by decide +kernel)) rfl
end
section
theorem dX6_fillCase_123 : decode cX6_fillCase 123 = .ok (.iload 10, 2) := dq_21 (a := 10) (fd_r fcX6_fillCase (by decide +kernel))
theorem dX6_fillCase_125 : decode cX6_fillCase 125 = .ok (.sipush 2048, 3) := dq_17 (a := 8) (b := 0) (fd_r fcX6_fillCase (by decide +kernel)) rfl
theorem dX6_fillCase_128 : decode cX6_fillCase 128 = .ok (.if_icmp .ge 48, 3) := dq_162 (a := 0) (b := 48) (fd_r fcX6_fillCase (by decide +kernel)) rfl
theorem dX6_fillCase_131 : decode cX6_fillCase 131 = .ok (.iload 7, 2) := dq_21 (a := 7) (fd_r fcX6_fillCase (by decide +kernel))
theorem dX6_fillCase_133 : decode cX6_fillCase 133 = .ok (.ifCond .ne 17, 3) := dq_154 (a := 0) (b := 17) (fd_r fcX6_fillCase (by decide +kernel)) rfl
theorem dX6_fillCase_136 : decode cX6_fillCase 136 = .ok (.aload_n 0, 1) := dq_42 (fd_r fcX6_fillCase (by decide +kernel))
theorem dX6_fillCase_137 : decode cX6_fillCase 137 = .ok (.getfield 20, 3) := dq_180 (a := 0) (b := 20) (fd_r fcX6_fillCase (by decide +kernel)) rfl
theorem dX6_fillCase_140 : decode cX6_fillCase 140 = .ok (.iload_n 3, 1) := dq_29 (fd_r fcX6_fillCase (by decide +kernel))
theorem dX6_fillCase_141 : decode cX6_fillCase 141 = .ok (.iconst 1, 1) := dq_4 (fd_r fcX6_fillCase (by decide +kernel))
theorem dX6_fillCase_142 : decode cX6_fillCase 142 = .ok (.iadd, 1) := dq_96 (fd_r fcX6_fillCase (by decide +kernel))
theorem dX6_fillCase_143 : decode cX6_fillCase 143 = .ok (.aaload, 1) := dq_50 (fd_r fcX6_fillCase (by decide +kernel))
theorem dX6_fillCase_144 : decode cX6_fillCase 144 = .ok (.iload 10, 2) := dq_21 (a := 10) (fd_r fcX6_fillCase (by decide +kernel))
theorem dX6_fillCase_146 : decode cX6_fillCase 146 = .ok (.iaload, 1) := dq_46 (fd_r fcX6_fillCase (by decide +kernel))
theorem dX6_fillCase_147 : decode cX6_fillCase 147 = .ok (.ifCond .eq 23, 3) := dq_153 (a := 0) (b := 23) (fd_r fcX6_fillCase (by decide +kernel)) rfl
theorem dX6_fillCase_150 : decode cX6_fillCase 150 = .ok (.aload_n 0, 1) := dq_42 (fd_r fcX6_fillCase (by decide +kernel))
theorem dX6_fillCase_151 : decode cX6_fillCase 151 = .ok (.getfield 20, 3) := dq_180 (a := 0) (b := 20) (fd_r fcX6_fillCase (by decide +kernel)) rfl
theorem dX6_fillCase_154 : decode cX6_fillCase 154 = .ok (.iload_n 2, 1) := dq_28 (fd_r fcX6_fillCase (by decide +kernel))
theorem dX6_fillCase_155 : decode cX6_fillCase 155 = .ok (.aaload, 1) := dq_50 (fd_r fcX6_fillCase (by decide +kernel))
theorem dX6_fillCase_156 : decode cX6_fillCase 156 = .ok (.iload 9, 2) := dq_21 (a := 9) (fd_r fcX6_fillCase (by decide +kernel))
theorem dX6_fillCase_158 : decode cX6_fillCase 158 = .ok (.iload 10, 2) := dq_21 (a := 10) (fd_r fcX6_fillCase (by decide +kernel))
theorem dX6_fillCase_160 : decode cX6_fillCase 160 = .ok (.iadd, 1) := dq_96 (fd_r fcX6_fillCase (by decide +kernel))
theorem dX6_fillCase_161 : decode cX6_fillCase 161 = .ok (.iload 9, 2) := dq_21 (a := 9) (fd_r fcX6_fillCase (by decide +kernel))
theorem dX6_fillCase_163 : decode cX6_fillCase 163 = .ok (.iload 10, 2) := dq_21 (a := 10) (fd_r fcX6_fillCase (by decide +kernel))
theorem dX6_fillCase_165 : decode cX6_fillCase 165 = .ok (.iadd, 1) := dq_96 (fd_r fcX6_fillCase (by decide +kernel))
theorem dX6_fillCase_166 : decode cX6_fillCase 166 = .ok (.iconst 1, 1) := dq_4 (fd_r fcX6_fillCase (by decide +kernel))
theorem dX6_fillCase_167 : decode cX6_fillCase 167 = .ok (.invokestatic 174, 3) := dq_184 (a := 0) (b := 174) (fd_r fcX6_fillCase (by decide +kernel)) rfl
theorem dX6_fillCase_170 : decode cX6_fillCase 170 = .ok (.iinc 10 1, 3) := dq_132 (a := 10) (b := 1) (fd_r fcX6_fillCase (by decide +kernel)) rfl
theorem dX6_fillCase_173 : decode cX6_fillCase 173 = .ok (.goto (-57), 3) := dq_167 (a := 255) (b := 199) (fd_r fcX6_fillCase (by decide +kernel)) rfl
theorem dX6_fillCase_176 : decode cX6_fillCase 176 = .ok (.iinc 8 1, 3) := dq_132 (a := 8) (b := 1) (fd_r fcX6_fillCase (by decide +kernel)) rfl
theorem dX6_fillCase_179 : decode cX6_fillCase 179 = .ok (.goto (-111), 3) := dq_167 (a := 255) (b := 145) (fd_r fcX6_fillCase (by decide +kernel)) rfl
theorem dX6_fillCase_182 : decode cX6_fillCase 182 = .ok (.return_, 1) := dq_177 (fd_r fcX6_fillCase (by decide +kernel))
theorem dX6_fill_0 : decode cX6_fill 0 = .ok (.iload_n 1, 1) := dq_27 (fd_r fcX6_fill (by decide +kernel))
theorem dX6_fill_1 : decode cX6_fill 1 = .ok (.iconst 0, 1) := dq_3 (fd_r fcX6_fill (by decide +kernel))
theorem dX6_fill_2 : decode cX6_fill 2 = .ok (.invokestatic 209, 3) := dq_184 (a := 0) (b := 209) (fd_r fcX6_fill (by decide +kernel)) rfl
theorem dX6_fill_5 : decode cX6_fill 5 = .ok (.istore 4, 2) := dq_54 (a := 4) (fd_r fcX6_fill (by decide +kernel))
theorem dX6_fill_7 : decode cX6_fill 7 = .ok (.iload 4, 2) := dq_21 (a := 4) (fd_r fcX6_fill (by decide +kernel))
theorem dX6_fill_9 : decode cX6_fill 9 = .ok (.iload_n 2, 1) := dq_28 (fd_r fcX6_fill (by decide +kernel))
theorem dX6_fill_10 : decode cX6_fill 10 = .ok (.if_icmp .gt 21, 3) := dq_163 (a := 0) (b := 21) (fd_r fcX6_fill (by decide +kernel)) rfl
theorem dX6_fill_13 : decode cX6_fill 13 = .ok (.iload 4, 2) := dq_21 (a := 4) (fd_r fcX6_fill (by decide +kernel))
theorem dX6_fill_15 : decode cX6_fill 15 = .ok (.aload_n 0, 1) := dq_42 (fd_r fcX6_fill (by decide +kernel))
theorem dX6_fill_16 : decode cX6_fill 16 = .ok (.arraylength, 1) := dq_190 (fd_r fcX6_fill (by decide +kernel))
theorem dX6_fill_17 : decode cX6_fill 17 = .ok (.if_icmp .ge 14, 3) := dq_162 (a := 0) (b := 14) (fd_r fcX6_fill (by decide +kernel)) rfl
theorem dX6_fill_20 : decode cX6_fill 20 = .ok (.aload_n 0, 1) := dq_42 (fd_r fcX6_fill (by decide +kernel))
theorem dX6_fill_21 : decode cX6_fill 21 = .ok (.iload 4, 2) := dq_21 (a := 4) (fd_r fcX6_fill (by decide +kernel))
theorem dX6_fill_23 : decode cX6_fill 23 = .ok (.iload_n 3, 1) := dq_29 (fd_r fcX6_fill (by decide +kernel))
theorem dX6_fill_24 : decode cX6_fill 24 = .ok (.iastore, 1) := dq_79 (fd_r fcX6_fill (by decide +kernel))
theorem dX6_fill_25 : decode cX6_fill 25 = .ok (.iinc 4 1, 3) := dq_132 (a := 4) (b := 1) (fd_r fcX6_fill (by decide +kernel)) rfl
theorem dX6_fill_28 : decode cX6_fill 28 = .ok (.goto (-21), 3) := dq_167 (a := 255) (b := 235) (fd_r fcX6_fill (by decide +kernel)) rfl
theorem dX6_fill_31 : decode cX6_fill 31 = .ok (.return_, 1) := dq_177 (fd_r fcX6_fill (by decide +kernel))
theorem dX6_readRow_0 : decode cX6_readRow 0 = .ok (.aload_n 0, 1) := dq_42 (fd_r fcX6_readRow (by decide +kernel))
theorem dX6_readRow_1 : decode cX6_readRow 1 = .ok (.aload_n 2, 1) := dq_44 (fd_r fcX6_readRow (by decide +kernel))
theorem dX6_readRow_2 : decode cX6_readRow 2 = .ok (.putfield 27, 3) := dq_181 (a := 0) (b := 27) (fd_r fcX6_readRow (by decide +kernel)) rfl
theorem dX6_readRow_5 : decode cX6_readRow 5 = .ok (.aload_n 0, 1) := dq_42 (fd_r fcX6_readRow (by decide +kernel))
theorem dX6_readRow_6 : decode cX6_readRow 6 = .ok (.aload_n 1, 1) := dq_43 (fd_r fcX6_readRow (by decide +kernel))
theorem dX6_readRow_7 : decode cX6_readRow 7 = .ok (.invokevirtual 36, 3) := dq_182 (a := 0) (b := 36) (fd_r fcX6_readRow (by decide +kernel)) rfl
theorem dX6_readRow_10 : decode cX6_readRow 10 = .ok (.aload_n 0, 1) := dq_42 (fd_r fcX6_readRow (by decide +kernel))
theorem dX6_readRow_11 : decode cX6_readRow 11 = .ok (.getfield 27, 3) := dq_180 (a := 0) (b := 27) (fd_r fcX6_readRow (by decide +kernel)) rfl
theorem dX6_readRow_14 : decode cX6_readRow 14 = .ok (.getfield 79, 3) := dq_180 (a := 0) (b := 79) (fd_r fcX6_readRow (by decide +kernel)) rfl
theorem dX6_readRow_17 : decode cX6_readRow 17 = .ok (.ifCond .ne 12, 3) := dq_154 (a := 0) (b := 12) (fd_r fcX6_readRow (by decide +kernel)) rfl
theorem dX6_readRow_20 : decode cX6_readRow 20 = .ok (.aload_n 0, 1) := dq_42 (fd_r fcX6_readRow (by decide +kernel))
theorem dX6_readRow_21 : decode cX6_readRow 21 = .ok (.iconst 1, 1) := dq_4 (fd_r fcX6_readRow (by decide +kernel))
theorem dX6_readRow_22 : decode cX6_readRow 22 = .ok (.iconst 0, 1) := dq_3 (fd_r fcX6_readRow (by decide +kernel))
theorem dX6_readRow_23 : decode cX6_readRow 23 = .ok (.invokevirtual 75, 3) := dq_182 (a := 0) (b := 75) (fd_r fcX6_readRow (by decide +kernel)) rfl
theorem dX6_readRow_26 : decode cX6_readRow 26 = .ok (.pop, 1) := dq_87 (fd_r fcX6_readRow (by decide +kernel))
theorem dX6_readRow_27 : decode cX6_readRow 27 = .ok (.iconst (-1), 1) := dq_2 (fd_r fcX6_readRow (by decide +kernel))
theorem dX6_readRow_28 : decode cX6_readRow 28 = .ok (.ireturn, 1) := dq_172 (fd_r fcX6_readRow (by decide +kernel))
theorem dX6_readRow_29 : decode cX6_readRow 29 = .ok (.iconst 0, 1) := dq_3 (fd_r fcX6_readRow (by decide +kernel))
theorem dX6_readRow_30 : decode cX6_readRow 30 = .ok (.istore_n 3, 1) := dq_62 (fd_r fcX6_readRow (by decide +kernel))
theorem dX6_readRow_31 : decode cX6_readRow 31 = .ok (.iconst 0, 1) := dq_3 (fd_r fcX6_readRow (by decide +kernel))
theorem dX6_readRow_32 : decode cX6_readRow 32 = .ok (.istore 4, 2) := dq_54 (a := 4) (fd_r fcX6_readRow (by decide +kernel))
theorem dX6_readRow_34 : decode cX6_readRow 34 = .ok (.iload 4, 2) := dq_21 (a := 4) (fd_r fcX6_readRow (by decide +kernel))
theorem dX6_readRow_36 : decode cX6_readRow 36 = .ok (.aload_n 0, 1) := dq_42 (fd_r fcX6_readRow (by decide +kernel))
theorem dX6_readRow_37 : decode cX6_readRow 37 = .ok (.getfield 27, 3) := dq_180 (a := 0) (b := 27) (fd_r fcX6_readRow (by decide +kernel)) rfl
theorem dX6_readRow_40 : decode cX6_readRow 40 = .ok (.getfield 79, 3) := dq_180 (a := 0) (b := 79) (fd_r fcX6_readRow (by decide +kernel)) rfl
theorem dX6_readRow_43 : decode cX6_readRow 43 = .ok (.if_icmp .ge 66, 3) := dq_162 (a := 0) (b := 66) (fd_r fcX6_readRow (by decide +kernel)) rfl
theorem dX6_readRow_46 : decode cX6_readRow 46 = .ok (.iload 4, 2) := dq_21 (a := 4) (fd_r fcX6_readRow (by decide +kernel))
theorem dX6_readRow_48 : decode cX6_readRow 48 = .ok (.ifCond .le 14, 3) := dq_158 (a := 0) (b := 14) (fd_r fcX6_readRow (by decide +kernel)) rfl
theorem dX6_readRow_51 : decode cX6_readRow 51 = .ok (.aload_n 0, 1) := dq_42 (fd_r fcX6_readRow (by decide +kernel))
theorem dX6_readRow_52 : decode cX6_readRow 52 = .ok (.bipush 44, 2) := dq_16 (a := 44) (fd_r fcX6_readRow (by decide +kernel)) rfl
theorem dX6_readRow_54 : decode cX6_readRow 54 = .ok (.invokevirtual 68, 3) := dq_182 (a := 0) (b := 68) (fd_r fcX6_readRow (by decide +kernel)) rfl
theorem dX6_readRow_57 : decode cX6_readRow 57 = .ok (.ifCond .ne 5, 3) := dq_154 (a := 0) (b := 5) (fd_r fcX6_readRow (by decide +kernel)) rfl
theorem dX6_readRow_60 : decode cX6_readRow 60 = .ok (.iconst (-1), 1) := dq_2 (fd_r fcX6_readRow (by decide +kernel))
theorem dX6_readRow_61 : decode cX6_readRow 61 = .ok (.ireturn, 1) := dq_172 (fd_r fcX6_readRow (by decide +kernel))
theorem dX6_readRow_62 : decode cX6_readRow 62 = .ok (.aload_n 0, 1) := dq_42 (fd_r fcX6_readRow (by decide +kernel))
theorem dX6_readRow_63 : decode cX6_readRow 63 = .ok (.aload_n 0, 1) := dq_42 (fd_r fcX6_readRow (by decide +kernel))
theorem dX6_readRow_64 : decode cX6_readRow 64 = .ok (.getfield 27, 3) := dq_180 (a := 0) (b := 27) (fd_r fcX6_readRow (by decide +kernel)) rfl
theorem dX6_readRow_67 : decode cX6_readRow 67 = .ok (.getfield 159, 3) := dq_180 (a := 0) (b := 159) (fd_r fcX6_readRow (by decide +kernel)) rfl
theorem dX6_readRow_70 : decode cX6_readRow 70 = .ok (.iload 4, 2) := dq_21 (a := 4) (fd_r fcX6_readRow (by decide +kernel))
theorem dX6_readRow_72 : decode cX6_readRow 72 = .ok (.iaload, 1) := dq_46 (fd_r fcX6_readRow (by decide +kernel))
theorem dX6_readRow_73 : decode cX6_readRow 73 = .ok (.iconst 0, 1) := dq_3 (fd_r fcX6_readRow (by decide +kernel))
theorem dX6_readRow_74 : decode cX6_readRow 74 = .ok (.invokestatic 214, 3) := dq_184 (a := 0) (b := 214) (fd_r fcX6_readRow (by decide +kernel)) rfl
theorem dX6_readRow_77 : decode cX6_readRow 77 = .ok (.istore 5, 2) := dq_54 (a := 5) (fd_r fcX6_readRow (by decide +kernel))
theorem dX6_readRow_79 : decode cX6_readRow 79 = .ok (.iload 5, 2) := dq_21 (a := 5) (fd_r fcX6_readRow (by decide +kernel))
theorem dX6_readRow_81 : decode cX6_readRow 81 = .ok (.iconst (-1), 1) := dq_2 (fd_r fcX6_readRow (by decide +kernel))
theorem dX6_readRow_82 : decode cX6_readRow 82 = .ok (.if_icmp .ne 5, 3) := dq_160 (a := 0) (b := 5) (fd_r fcX6_readRow (by decide +kernel)) rfl
theorem dX6_readRow_85 : decode cX6_readRow 85 = .ok (.iconst (-1), 1) := dq_2 (fd_r fcX6_readRow (by decide +kernel))
theorem dX6_readRow_86 : decode cX6_readRow 86 = .ok (.ireturn, 1) := dq_172 (fd_r fcX6_readRow (by decide +kernel))
theorem dX6_readRow_87 : decode cX6_readRow 87 = .ok (.iload_n 3, 1) := dq_29 (fd_r fcX6_readRow (by decide +kernel))
theorem dX6_readRow_88 : decode cX6_readRow 88 = .ok (.aload_n 0, 1) := dq_42 (fd_r fcX6_readRow (by decide +kernel))
theorem dX6_readRow_89 : decode cX6_readRow 89 = .ok (.getfield 27, 3) := dq_180 (a := 0) (b := 27) (fd_r fcX6_readRow (by decide +kernel)) rfl
theorem dX6_readRow_92 : decode cX6_readRow 92 = .ok (.getfield 218, 3) := dq_180 (a := 0) (b := 218) (fd_r fcX6_readRow (by decide +kernel)) rfl
theorem dX6_readRow_95 : decode cX6_readRow 95 = .ok (.iload 4, 2) := dq_21 (a := 4) (fd_r fcX6_readRow (by decide +kernel))
theorem dX6_readRow_97 : decode cX6_readRow 97 = .ok (.iaload, 1) := dq_46 (fd_r fcX6_readRow (by decide +kernel))
theorem dX6_readRow_98 : decode cX6_readRow 98 = .ok (.imul, 1) := dq_104 (fd_r fcX6_readRow (by decide +kernel))
theorem dX6_readRow_99 : decode cX6_readRow 99 = .ok (.iload 5, 2) := dq_21 (a := 5) (fd_r fcX6_readRow (by decide +kernel))
theorem dX6_readRow_101 : decode cX6_readRow 101 = .ok (.iadd, 1) := dq_96 (fd_r fcX6_readRow (by decide +kernel))
theorem dX6_readRow_102 : decode cX6_readRow 102 = .ok (.istore_n 3, 1) := dq_62 (fd_r fcX6_readRow (by decide +kernel))
theorem dX6_readRow_103 : decode cX6_readRow 103 = .ok (.iinc 4 1, 3) := dq_132 (a := 4) (b := 1) (fd_r fcX6_readRow (by decide +kernel)) rfl
theorem dX6_readRow_106 : decode cX6_readRow 106 = .ok (.goto (-72), 3) := dq_167 (a := 255) (b := 184) (fd_r fcX6_readRow (by decide +kernel)) rfl
theorem dX6_readRow_109 : decode cX6_readRow 109 = .ok (.aload_n 0, 1) := dq_42 (fd_r fcX6_readRow (by decide +kernel))
theorem dX6_readRow_110 : decode cX6_readRow 110 = .ok (.getfield 12, 3) := dq_180 (a := 0) (b := 12) (fd_r fcX6_readRow (by decide +kernel)) rfl
theorem dX6_readRow_113 : decode cX6_readRow 113 = .ok (.getfield 40, 3) := dq_180 (a := 0) (b := 40) (fd_r fcX6_readRow (by decide +kernel)) rfl
theorem dX6_readRow_116 : decode cX6_readRow 116 = .ok (.ifCond .eq 10, 3) := dq_153 (a := 0) (b := 10) (fd_r fcX6_readRow (by decide +kernel)) rfl
theorem dX6_readRow_119 : decode cX6_readRow 119 = .ok (.aload_n 0, 1) := dq_42 (fd_r fcX6_readRow (by decide +kernel))
theorem dX6_readRow_120 : decode cX6_readRow 120 = .ok (.invokevirtual 65, 3) := dq_182 (a := 0) (b := 65) (fd_r fcX6_readRow (by decide +kernel)) rfl
theorem dX6_readRow_123 : decode cX6_readRow 123 = .ok (.pop, 1) := dq_87 (fd_r fcX6_readRow (by decide +kernel))
theorem dX6_readRow_124 : decode cX6_readRow 124 = .ok (.iconst (-1), 1) := dq_2 (fd_r fcX6_readRow (by decide +kernel))
theorem dX6_readRow_125 : decode cX6_readRow 125 = .ok (.ireturn, 1) := dq_172 (fd_r fcX6_readRow (by decide +kernel))
theorem dX6_readRow_126 : decode cX6_readRow 126 = .ok (.iload_n 3, 1) := dq_29 (fd_r fcX6_readRow (by decide +kernel))
theorem dX6_readRow_127 : decode cX6_readRow 127 = .ok (.ireturn, 1) := dq_172 (fd_r fcX6_readRow (by decide +kernel))
theorem dX6_readValue_0 : decode cX6_readValue 0 = .ok (.iload_n 1, 1) := dq_27 (fd_r fcX6_readValue (by decide +kernel))
theorem dX6_readValue_1 : decode cX6_readValue 1 = .ok (.iconst (-1), 1) := dq_2 (fd_r fcX6_readValue (by decide +kernel))
theorem dX6_readValue_2 : decode cX6_readValue 2 = .ok (.if_icmp .ne 11, 3) := dq_160 (a := 0) (b := 11) (fd_r fcX6_readValue (by decide +kernel)) rfl
theorem dX6_readValue_5 : decode cX6_readValue 5 = .ok (.aload_n 0, 1) := dq_42 (fd_r fcX6_readValue (by decide +kernel))
theorem dX6_readValue_6 : decode cX6_readValue 6 = .ok (.iconst 0, 1) := dq_3 (fd_r fcX6_readValue (by decide +kernel))
theorem dX6_readValue_7 : decode cX6_readValue 7 = .ok (.bipush 19, 2) := dq_16 (a := 19) (fd_r fcX6_readValue (by decide +kernel)) rfl
theorem dX6_readValue_9 : decode cX6_readValue 9 = .ok (.invokevirtual 98, 3) := dq_182 (a := 0) (b := 98) (fd_r fcX6_readValue (by decide +kernel)) rfl
theorem dX6_readValue_12 : decode cX6_readValue 12 = .ok (.ireturn, 1) := dq_172 (fd_r fcX6_readValue (by decide +kernel))
theorem dX6_readValue_13 : decode cX6_readValue 13 = .ok (.iload_n 2, 1) := dq_28 (fd_r fcX6_readValue (by decide +kernel))
theorem dX6_readValue_14 : decode cX6_readValue 14 = .ok (.iconst 4, 1) := dq_7 (fd_r fcX6_readValue (by decide +kernel))
theorem dX6_readValue_15 : decode cX6_readValue 15 = .ok (.if_icmp .le 7, 3) := dq_164 (a := 0) (b := 7) (fd_r fcX6_readValue (by decide +kernel)) rfl
theorem dX6_readValue_18 : decode cX6_readValue 18 = .ok (.iconst (-1), 1) := dq_2 (fd_r fcX6_readValue (by decide +kernel))
theorem dX6_readValue_19 : decode cX6_readValue 19 = .ok (.goto 8, 3) := dq_167 (a := 0) (b := 8) (fd_r fcX6_readValue (by decide +kernel)) rfl
theorem dX6_readValue_22 : decode cX6_readValue 22 = .ok (.aload_n 0, 1) := dq_42 (fd_r fcX6_readValue (by decide +kernel))
theorem dX6_readValue_23 : decode cX6_readValue 23 = .ok (.iload_n 1, 1) := dq_27 (fd_r fcX6_readValue (by decide +kernel))
theorem dX6_readValue_24 : decode cX6_readValue 24 = .ok (.invokevirtual 184, 3) := dq_182 (a := 0) (b := 184) (fd_r fcX6_readValue (by decide +kernel)) rfl
theorem dX6_readValue_27 : decode cX6_readValue 27 = .ok (.istore_n 3, 1) := dq_62 (fd_r fcX6_readValue (by decide +kernel))
theorem dX6_readValue_28 : decode cX6_readValue 28 = .ok (.iload_n 3, 1) := dq_29 (fd_r fcX6_readValue (by decide +kernel))
theorem dX6_readValue_29 : decode cX6_readValue 29 = .ok (.iconst (-1), 1) := dq_2 (fd_r fcX6_readValue (by decide +kernel))
theorem dX6_readValue_30 : decode cX6_readValue 30 = .ok (.if_icmp .ne 5, 3) := dq_160 (a := 0) (b := 5) (fd_r fcX6_readValue (by decide +kernel)) rfl
theorem dX6_readValue_33 : decode cX6_readValue 33 = .ok (.iconst (-1), 1) := dq_2 (fd_r fcX6_readValue (by decide +kernel))
theorem dX6_readValue_34 : decode cX6_readValue 34 = .ok (.ireturn, 1) := dq_172 (fd_r fcX6_readValue (by decide +kernel))
theorem dX6_readValue_35 : decode cX6_readValue 35 = .ok (.aload_n 0, 1) := dq_42 (fd_r fcX6_readValue (by decide +kernel))
theorem dX6_readValue_36 : decode cX6_readValue 36 = .ok (.getfield 27, 3) := dq_180 (a := 0) (b := 27) (fd_r fcX6_readValue (by decide +kernel)) rfl
theorem dX6_readValue_39 : decode cX6_readValue 39 = .ok (.getfield 108, 3) := dq_180 (a := 0) (b := 108) (fd_r fcX6_readValue (by decide +kernel)) rfl
theorem dX6_readValue_42 : decode cX6_readValue 42 = .ok (.astore 4, 2) := dq_58 (a := 4) (fd_r fcX6_readValue (by decide +kernel))
theorem dX6_readValue_44 : decode cX6_readValue 44 = .ok (.aload 4, 2) := dq_25 (a := 4) (fd_r fcX6_readValue (by decide +kernel))
theorem dX6_readValue_46 : decode cX6_readValue 46 = .ok (.getfield 187, 3) := dq_180 (a := 0) (b := 187) (fd_r fcX6_readValue (by decide +kernel)) rfl
theorem dX6_readValue_49 : decode cX6_readValue 49 = .ok (.iload_n 3, 1) := dq_29 (fd_r fcX6_readValue (by decide +kernel))
theorem dX6_readValue_50 : decode cX6_readValue 50 = .ok (.iaload, 1) := dq_46 (fd_r fcX6_readValue (by decide +kernel))
theorem dX6_readValue_51 : decode cX6_readValue 51 = .ok (.ifCond .ne 11, 3) := dq_154 (a := 0) (b := 11) (fd_r fcX6_readValue (by decide +kernel)) rfl
theorem dX6_readValue_54 : decode cX6_readValue 54 = .ok (.aload 4, 2) := dq_25 (a := 4) (fd_r fcX6_readValue (by decide +kernel))
theorem dX6_readValue_56 : decode cX6_readValue 56 = .ok (.getfield 190, 3) := dq_180 (a := 0) (b := 190) (fd_r fcX6_readValue (by decide +kernel)) rfl
theorem dX6_readValue_59 : decode cX6_readValue 59 = .ok (.iload_n 3, 1) := dq_29 (fd_r fcX6_readValue (by decide +kernel))
theorem dX6_readValue_60 : decode cX6_readValue 60 = .ok (.iaload, 1) := dq_46 (fd_r fcX6_readValue (by decide +kernel))
theorem dX6_readValue_61 : decode cX6_readValue 61 = .ok (.ireturn, 1) := dq_172 (fd_r fcX6_readValue (by decide +kernel))
theorem dX6_readValue_62 : decode cX6_readValue 62 = .ok (.aload_n 0, 1) := dq_42 (fd_r fcX6_readValue (by decide +kernel))
theorem dX6_readValue_63 : decode cX6_readValue 63 = .ok (.bipush 40, 2) := dq_16 (a := 40) (fd_r fcX6_readValue (by decide +kernel)) rfl
theorem dX6_readValue_65 : decode cX6_readValue 65 = .ok (.invokevirtual 68, 3) := dq_182 (a := 0) (b := 68) (fd_r fcX6_readValue (by decide +kernel)) rfl
theorem dX6_readValue_68 : decode cX6_readValue 68 = .ok (.ifCond .eq 20, 3) := dq_153 (a := 0) (b := 20) (fd_r fcX6_readValue (by decide +kernel)) rfl
theorem dX6_readValue_71 : decode cX6_readValue 71 = .ok (.aload_n 0, 1) := dq_42 (fd_r fcX6_readValue (by decide +kernel))
theorem dX6_readValue_72 : decode cX6_readValue 72 = .ok (.aload 4, 2) := dq_25 (a := 4) (fd_r fcX6_readValue (by decide +kernel))
theorem dX6_readValue_74 : decode cX6_readValue 74 = .ok (.getfield 193, 3) := dq_180 (a := 0) (b := 193) (fd_r fcX6_readValue (by decide +kernel)) rfl
theorem dX6_readValue_77 : decode cX6_readValue 77 = .ok (.iload_n 3, 1) := dq_29 (fd_r fcX6_readValue (by decide +kernel))
theorem dX6_readValue_78 : decode cX6_readValue 78 = .ok (.iaload, 1) := dq_46 (fd_r fcX6_readValue (by decide +kernel))
theorem dX6_readValue_79 : decode cX6_readValue 79 = .ok (.iload_n 2, 1) := dq_28 (fd_r fcX6_readValue (by decide +kernel))
theorem dX6_readValue_80 : decode cX6_readValue 80 = .ok (.iconst 1, 1) := dq_4 (fd_r fcX6_readValue (by decide +kernel))
theorem dX6_readValue_81 : decode cX6_readValue 81 = .ok (.iadd, 1) := dq_96 (fd_r fcX6_readValue (by decide +kernel))
theorem dX6_readValue_82 : decode cX6_readValue 82 = .ok (.invokestatic 214, 3) := dq_184 (a := 0) (b := 214) (fd_r fcX6_readValue (by decide +kernel)) rfl
theorem dX6_readValue_85 : decode cX6_readValue 85 = .ok (.goto 4, 3) := dq_167 (a := 0) (b := 4) (fd_r fcX6_readValue (by decide +kernel)) rfl
theorem dX6_readValue_88 : decode cX6_readValue 88 = .ok (.iconst (-1), 1) := dq_2 (fd_r fcX6_readValue (by decide +kernel))
theorem dX6_readValue_89 : decode cX6_readValue 89 = .ok (.istore 5, 2) := dq_54 (a := 5) (fd_r fcX6_readValue (by decide +kernel))
theorem dX6_readValue_91 : decode cX6_readValue 91 = .ok (.iload 5, 2) := dq_21 (a := 5) (fd_r fcX6_readValue (by decide +kernel))
theorem dX6_readValue_93 : decode cX6_readValue 93 = .ok (.iconst (-1), 1) := dq_2 (fd_r fcX6_readValue (by decide +kernel))
theorem dX6_readValue_94 : decode cX6_readValue 94 = .ok (.if_icmp .ne 5, 3) := dq_160 (a := 0) (b := 5) (fd_r fcX6_readValue (by decide +kernel)) rfl
theorem dX6_readValue_97 : decode cX6_readValue 97 = .ok (.iconst (-1), 1) := dq_2 (fd_r fcX6_readValue (by decide +kernel))
theorem dX6_readValue_98 : decode cX6_readValue 98 = .ok (.ireturn, 1) := dq_172 (fd_r fcX6_readValue (by decide +kernel))
theorem dX6_readValue_99 : decode cX6_readValue 99 = .ok (.iconst 0, 1) := dq_3 (fd_r fcX6_readValue (by decide +kernel))
theorem dX6_readValue_100 : decode cX6_readValue 100 = .ok (.istore 6, 2) := dq_54 (a := 6) (fd_r fcX6_readValue (by decide +kernel))
theorem dX6_readValue_102 : decode cX6_readValue 102 = .ok (.aload 4, 2) := dq_25 (a := 4) (fd_r fcX6_readValue (by decide +kernel))
theorem dX6_readValue_104 : decode cX6_readValue 104 = .ok (.getfield 187, 3) := dq_180 (a := 0) (b := 187) (fd_r fcX6_readValue (by decide +kernel)) rfl
theorem dX6_readValue_107 : decode cX6_readValue 107 = .ok (.iload_n 3, 1) := dq_29 (fd_r fcX6_readValue (by decide +kernel))
theorem dX6_readValue_108 : decode cX6_readValue 108 = .ok (.iaload, 1) := dq_46 (fd_r fcX6_readValue (by decide +kernel))
theorem dX6_readValue_109 : decode cX6_readValue 109 = .ok (.iconst 2, 1) := dq_5 (fd_r fcX6_readValue (by decide +kernel))
theorem dX6_readValue_110 : decode cX6_readValue 110 = .ok (.if_icmp .ne 32, 3) := dq_160 (a := 0) (b := 32) (fd_r fcX6_readValue (by decide +kernel)) rfl
theorem dX6_readValue_113 : decode cX6_readValue 113 = .ok (.aload_n 0, 1) := dq_42 (fd_r fcX6_readValue (by decide +kernel))
theorem dX6_readValue_114 : decode cX6_readValue 114 = .ok (.bipush 44, 2) := dq_16 (a := 44) (fd_r fcX6_readValue (by decide +kernel)) rfl
theorem dX6_readValue_116 : decode cX6_readValue 116 = .ok (.invokevirtual 68, 3) := dq_182 (a := 0) (b := 68) (fd_r fcX6_readValue (by decide +kernel)) rfl
theorem dX6_readValue_119 : decode cX6_readValue 119 = .ok (.ifCond .eq 20, 3) := dq_153 (a := 0) (b := 20) (fd_r fcX6_readValue (by decide +kernel)) rfl
theorem dX6_readValue_122 : decode cX6_readValue 122 = .ok (.aload_n 0, 1) := dq_42 (fd_r fcX6_readValue (by decide +kernel))
theorem dX6_readValue_123 : decode cX6_readValue 123 = .ok (.aload 4, 2) := dq_25 (a := 4) (fd_r fcX6_readValue (by decide +kernel))
theorem dX6_readValue_125 : decode cX6_readValue 125 = .ok (.getfield 196, 3) := dq_180 (a := 0) (b := 196) (fd_r fcX6_readValue (by decide +kernel)) rfl
theorem dX6_readValue_128 : decode cX6_readValue 128 = .ok (.iload_n 3, 1) := dq_29 (fd_r fcX6_readValue (by decide +kernel))
theorem dX6_readValue_129 : decode cX6_readValue 129 = .ok (.iaload, 1) := dq_46 (fd_r fcX6_readValue (by decide +kernel))
theorem dX6_readValue_130 : decode cX6_readValue 130 = .ok (.iload_n 2, 1) := dq_28 (fd_r fcX6_readValue (by decide +kernel))
theorem dX6_readValue_131 : decode cX6_readValue 131 = .ok (.iconst 1, 1) := dq_4 (fd_r fcX6_readValue (by decide +kernel))
theorem dX6_readValue_132 : decode cX6_readValue 132 = .ok (.iadd, 1) := dq_96 (fd_r fcX6_readValue (by decide +kernel))
theorem dX6_readValue_133 : decode cX6_readValue 133 = .ok (.invokestatic 214, 3) := dq_184 (a := 0) (b := 214) (fd_r fcX6_readValue (by decide +kernel)) rfl
theorem dX6_readValue_136 : decode cX6_readValue 136 = .ok (.goto 4, 3) := dq_167 (a := 0) (b := 4) (fd_r fcX6_readValue (by decide +kernel)) rfl
theorem dX6_readValue_139 : decode cX6_readValue 139 = .ok (.iconst (-1), 1) := dq_2 (fd_r fcX6_readValue (by decide +kernel))
theorem dX6_readValue_140 : decode cX6_readValue 140 = .ok (.istore 6, 2) := dq_54 (a := 6) (fd_r fcX6_readValue (by decide +kernel))
theorem dX6_readValue_142 : decode cX6_readValue 142 = .ok (.iload 6, 2) := dq_21 (a := 6) (fd_r fcX6_readValue (by decide +kernel))
theorem dX6_readValue_144 : decode cX6_readValue 144 = .ok (.iconst (-1), 1) := dq_2 (fd_r fcX6_readValue (by decide +kernel))
theorem dX6_readValue_145 : decode cX6_readValue 145 = .ok (.if_icmp .eq 12, 3) := dq_159 (a := 0) (b := 12) (fd_r fcX6_readValue (by decide +kernel)) rfl
theorem dX6_readValue_148 : decode cX6_readValue 148 = .ok (.aload_n 0, 1) := dq_42 (fd_r fcX6_readValue (by decide +kernel))
theorem dX6_readValue_149 : decode cX6_readValue 149 = .ok (.bipush 41, 2) := dq_16 (a := 41) (fd_r fcX6_readValue (by decide +kernel)) rfl
theorem dX6_readValue_151 : decode cX6_readValue 151 = .ok (.invokevirtual 68, 3) := dq_182 (a := 0) (b := 68) (fd_r fcX6_readValue (by decide +kernel)) rfl
theorem dX6_readValue_154 : decode cX6_readValue 154 = .ok (.ifCond .ne 5, 3) := dq_154 (a := 0) (b := 5) (fd_r fcX6_readValue (by decide +kernel)) rfl
theorem dX6_readValue_157 : decode cX6_readValue 157 = .ok (.iconst (-1), 1) := dq_2 (fd_r fcX6_readValue (by decide +kernel))
theorem dX6_readValue_158 : decode cX6_readValue 158 = .ok (.ireturn, 1) := dq_172 (fd_r fcX6_readValue (by decide +kernel))
theorem dX6_readValue_159 : decode cX6_readValue 159 = .ok (.aload 4, 2) := dq_25 (a := 4) (fd_r fcX6_readValue (by decide +kernel))
theorem dX6_readValue_161 : decode cX6_readValue 161 = .ok (.getfield 190, 3) := dq_180 (a := 0) (b := 190) (fd_r fcX6_readValue (by decide +kernel)) rfl
theorem dX6_readValue_164 : decode cX6_readValue 164 = .ok (.iload_n 3, 1) := dq_29 (fd_r fcX6_readValue (by decide +kernel))
theorem dX6_readValue_165 : decode cX6_readValue 165 = .ok (.iaload, 1) := dq_46 (fd_r fcX6_readValue (by decide +kernel))
theorem dX6_readValue_166 : decode cX6_readValue 166 = .ok (.iload 5, 2) := dq_21 (a := 5) (fd_r fcX6_readValue (by decide +kernel))
theorem dX6_readValue_168 : decode cX6_readValue 168 = .ok (.aload 4, 2) := dq_25 (a := 4) (fd_r fcX6_readValue (by decide +kernel))
theorem dX6_readValue_170 : decode cX6_readValue 170 = .ok (.iload_n 3, 1) := dq_29 (fd_r fcX6_readValue (by decide +kernel))
theorem dX6_readValue_171 : decode cX6_readValue 171 = .ok (.invokevirtual 206, 3) := dq_182 (a := 0) (b := 206) (fd_r fcX6_readValue (by decide +kernel)) rfl
theorem dX6_readValue_174 : decode cX6_readValue 174 = .ok (.imul, 1) := dq_104 (fd_r fcX6_readValue (by decide +kernel))
theorem dX6_readValue_175 : decode cX6_readValue 175 = .ok (.iadd, 1) := dq_96 (fd_r fcX6_readValue (by decide +kernel))
theorem dX6_readValue_176 : decode cX6_readValue 176 = .ok (.iload 6, 2) := dq_21 (a := 6) (fd_r fcX6_readValue (by decide +kernel))
theorem dX6_readValue_178 : decode cX6_readValue 178 = .ok (.iadd, 1) := dq_96 (fd_r fcX6_readValue (by decide +kernel))
theorem dX6_readValue_179 : decode cX6_readValue 179 = .ok (.ireturn, 1) := dq_172 (fd_r fcX6_readValue (by decide +kernel))
theorem dX7_init_0 : decode cX7_init 0 = .ok (.aload_n 0, 1) := dq_42 (fd_r fcX7_init (by decide +kernel))
theorem dX7_init_1 : decode cX7_init 1 = .ok (.invokespecial 3, 3) := dq_183 (a := 0) (b := 3) (fd_r fcX7_init (by decide +kernel)) rfl
theorem dX7_init_4 : decode cX7_init 4 = .ok (.aload_n 0, 1) := dq_42 (fd_r fcX7_init (by decide +kernel))
theorem dX7_init_5 : decode cX7_init 5 = .ok (.bipush 11, 2) := dq_16 (a := 11) (fd_r fcX7_init (by decide +kernel)) rfl
theorem dX7_init_7 : decode cX7_init 7 = .ok (.newarray .int, 2) := by decide +kernel
theorem dX7_init_9 : decode cX7_init 9 = .ok (.dup, 1) := dq_89 (fd_r fcX7_init (by decide +kernel))
theorem dX7_init_10 : decode cX7_init 10 = .ok (.iconst 0, 1) := dq_3 (fd_r fcX7_init (by decide +kernel))
theorem dX7_init_11 : decode cX7_init 11 = .ok (.ldc 9, 2) := dq_18 (a := 9) (fd_r fcX7_init (by decide +kernel))
theorem dX7_init_13 : decode cX7_init 13 = .ok (.invokestatic 11, 3) := dq_184 (a := 0) (b := 11) (fd_r fcX7_init (by decide +kernel)) rfl
theorem dX7_init_16 : decode cX7_init 16 = .ok (.iastore, 1) := dq_79 (fd_r fcX7_init (by decide +kernel))
theorem dX7_init_17 : decode cX7_init 17 = .ok (.dup, 1) := dq_89 (fd_r fcX7_init (by decide +kernel))
theorem dX7_init_18 : decode cX7_init 18 = .ok (.iconst 1, 1) := dq_4 (fd_r fcX7_init (by decide +kernel))
theorem dX7_init_19 : decode cX7_init 19 = .ok (.ldc 17, 2) := dq_18 (a := 17) (fd_r fcX7_init (by decide +kernel))
theorem dX7_init_21 : decode cX7_init 21 = .ok (.invokestatic 11, 3) := dq_184 (a := 0) (b := 11) (fd_r fcX7_init (by decide +kernel)) rfl
theorem dX7_init_24 : decode cX7_init 24 = .ok (.iastore, 1) := dq_79 (fd_r fcX7_init (by decide +kernel))
theorem dX7_init_25 : decode cX7_init 25 = .ok (.dup, 1) := dq_89 (fd_r fcX7_init (by decide +kernel))
theorem dX7_init_26 : decode cX7_init 26 = .ok (.iconst 2, 1) := dq_5 (fd_r fcX7_init (by decide +kernel))
theorem dX7_init_27 : decode cX7_init 27 = .ok (.ldc 19, 2) := dq_18 (a := 19) (fd_r fcX7_init (by decide +kernel))
theorem dX7_init_29 : decode cX7_init 29 = .ok (.invokestatic 11, 3) := dq_184 (a := 0) (b := 11) (fd_r fcX7_init (by decide +kernel)) rfl
theorem dX7_init_32 : decode cX7_init 32 = .ok (.iastore, 1) := dq_79 (fd_r fcX7_init (by decide +kernel))
theorem dX7_init_33 : decode cX7_init 33 = .ok (.dup, 1) := dq_89 (fd_r fcX7_init (by decide +kernel))
theorem dX7_init_34 : decode cX7_init 34 = .ok (.iconst 3, 1) := dq_6 (fd_r fcX7_init (by decide +kernel))
theorem dX7_init_35 : decode cX7_init 35 = .ok (.ldc 21, 2) := dq_18 (a := 21) (fd_r fcX7_init (by decide +kernel))
theorem dX7_init_37 : decode cX7_init 37 = .ok (.invokestatic 11, 3) := dq_184 (a := 0) (b := 11) (fd_r fcX7_init (by decide +kernel)) rfl
theorem dX7_init_40 : decode cX7_init 40 = .ok (.iastore, 1) := dq_79 (fd_r fcX7_init (by decide +kernel))
theorem dX7_init_41 : decode cX7_init 41 = .ok (.dup, 1) := dq_89 (fd_r fcX7_init (by decide +kernel))
theorem dX7_init_42 : decode cX7_init 42 = .ok (.iconst 4, 1) := dq_7 (fd_r fcX7_init (by decide +kernel))
theorem dX7_init_43 : decode cX7_init 43 = .ok (.ldc 23, 2) := dq_18 (a := 23) (fd_r fcX7_init (by decide +kernel))
theorem dX7_init_45 : decode cX7_init 45 = .ok (.invokestatic 11, 3) := dq_184 (a := 0) (b := 11) (fd_r fcX7_init (by decide +kernel)) rfl
theorem dX7_init_48 : decode cX7_init 48 = .ok (.iastore, 1) := dq_79 (fd_r fcX7_init (by decide +kernel))
theorem dX7_init_49 : decode cX7_init 49 = .ok (.dup, 1) := dq_89 (fd_r fcX7_init (by decide +kernel))
theorem dX7_init_50 : decode cX7_init 50 = .ok (.iconst 5, 1) := dq_8 (fd_r fcX7_init (by decide +kernel))
theorem dX7_init_51 : decode cX7_init 51 = .ok (.ldc 25, 2) := dq_18 (a := 25) (fd_r fcX7_init (by decide +kernel))
theorem dX7_init_53 : decode cX7_init 53 = .ok (.invokestatic 11, 3) := dq_184 (a := 0) (b := 11) (fd_r fcX7_init (by decide +kernel)) rfl
theorem dX7_init_56 : decode cX7_init 56 = .ok (.iastore, 1) := dq_79 (fd_r fcX7_init (by decide +kernel))
theorem dX7_init_57 : decode cX7_init 57 = .ok (.dup, 1) := dq_89 (fd_r fcX7_init (by decide +kernel))
theorem dX7_init_58 : decode cX7_init 58 = .ok (.bipush 6, 2) := dq_16 (a := 6) (fd_r fcX7_init (by decide +kernel)) rfl
theorem dX7_init_60 : decode cX7_init 60 = .ok (.ldc 27, 2) := dq_18 (a := 27) (fd_r fcX7_init (by decide +kernel))
theorem dX7_init_62 : decode cX7_init 62 = .ok (.invokestatic 11, 3) := dq_184 (a := 0) (b := 11) (fd_r fcX7_init (by decide +kernel)) rfl
theorem dX7_init_65 : decode cX7_init 65 = .ok (.iastore, 1) := dq_79 (fd_r fcX7_init (by decide +kernel))
theorem dX7_init_66 : decode cX7_init 66 = .ok (.dup, 1) := dq_89 (fd_r fcX7_init (by decide +kernel))
theorem dX7_init_67 : decode cX7_init 67 = .ok (.bipush 7, 2) := dq_16 (a := 7) (fd_r fcX7_init (by decide +kernel)) rfl
theorem dX7_init_69 : decode cX7_init 69 = .ok (.ldc 29, 2) := dq_18 (a := 29) (fd_r fcX7_init (by decide +kernel))
theorem dX7_init_71 : decode cX7_init 71 = .ok (.invokestatic 11, 3) := dq_184 (a := 0) (b := 11) (fd_r fcX7_init (by decide +kernel)) rfl
theorem dX7_init_74 : decode cX7_init 74 = .ok (.iastore, 1) := dq_79 (fd_r fcX7_init (by decide +kernel))
theorem dX7_init_75 : decode cX7_init 75 = .ok (.dup, 1) := dq_89 (fd_r fcX7_init (by decide +kernel))
theorem dX7_init_76 : decode cX7_init 76 = .ok (.bipush 8, 2) := dq_16 (a := 8) (fd_r fcX7_init (by decide +kernel)) rfl
theorem dX7_init_78 : decode cX7_init 78 = .ok (.ldc 31, 2) := dq_18 (a := 31) (fd_r fcX7_init (by decide +kernel))
theorem dX7_init_80 : decode cX7_init 80 = .ok (.invokestatic 11, 3) := dq_184 (a := 0) (b := 11) (fd_r fcX7_init (by decide +kernel)) rfl
theorem dX7_init_83 : decode cX7_init 83 = .ok (.iastore, 1) := dq_79 (fd_r fcX7_init (by decide +kernel))
theorem dX7_init_84 : decode cX7_init 84 = .ok (.dup, 1) := dq_89 (fd_r fcX7_init (by decide +kernel))
theorem dX7_init_85 : decode cX7_init 85 = .ok (.bipush 9, 2) := dq_16 (a := 9) (fd_r fcX7_init (by decide +kernel)) rfl
theorem dX7_init_87 : decode cX7_init 87 = .ok (.ldc 33, 2) := dq_18 (a := 33) (fd_r fcX7_init (by decide +kernel))
theorem dX7_init_89 : decode cX7_init 89 = .ok (.invokestatic 11, 3) := dq_184 (a := 0) (b := 11) (fd_r fcX7_init (by decide +kernel)) rfl
theorem dX7_init_92 : decode cX7_init 92 = .ok (.iastore, 1) := dq_79 (fd_r fcX7_init (by decide +kernel))
theorem dX7_init_93 : decode cX7_init 93 = .ok (.dup, 1) := dq_89 (fd_r fcX7_init (by decide +kernel))
theorem dX7_init_94 : decode cX7_init 94 = .ok (.bipush 10, 2) := dq_16 (a := 10) (fd_r fcX7_init (by decide +kernel)) rfl
theorem dX7_init_96 : decode cX7_init 96 = .ok (.ldc 35, 2) := dq_18 (a := 35) (fd_r fcX7_init (by decide +kernel))
theorem dX7_init_98 : decode cX7_init 98 = .ok (.invokestatic 11, 3) := dq_184 (a := 0) (b := 11) (fd_r fcX7_init (by decide +kernel)) rfl
theorem dX7_init_101 : decode cX7_init 101 = .ok (.iastore, 1) := dq_79 (fd_r fcX7_init (by decide +kernel))
theorem dX7_init_102 : decode cX7_init 102 = .ok (.putfield 37, 3) := dq_181 (a := 0) (b := 37) (fd_r fcX7_init (by decide +kernel)) rfl
theorem dX7_init_105 : decode cX7_init 105 = .ok (.aload_n 0, 1) := dq_42 (fd_r fcX7_init (by decide +kernel))
theorem dX7_init_106 : decode cX7_init 106 = .ok (.iconst 0, 1) := dq_3 (fd_r fcX7_init (by decide +kernel))
theorem dX7_init_107 : decode cX7_init 107 = .ok (.newarray .int, 2) := by decide +kernel
theorem dX7_init_109 : decode cX7_init 109 = .ok (.putfield 41, 3) := dq_181 (a := 0) (b := 41) (fd_r fcX7_init (by decide +kernel)) rfl
theorem dX7_init_112 : decode cX7_init 112 = .ok (.return_, 1) := dq_177 (fd_r fcX7_init (by decide +kernel))
theorem dX7_spell_0 : decode cX7_spell 0 = .ok (.iconst 0, 1) := dq_3 (fd_r fcX7_spell (by decide +kernel))
theorem dX7_spell_1 : decode cX7_spell 1 = .ok (.istore_n 1, 1) := dq_60 (fd_r fcX7_spell (by decide +kernel))
theorem dX7_spell_2 : decode cX7_spell 2 = .ok (.iconst 0, 1) := dq_3 (fd_r fcX7_spell (by decide +kernel))
theorem dX7_spell_3 : decode cX7_spell 3 = .ok (.istore_n 2, 1) := dq_61 (fd_r fcX7_spell (by decide +kernel))
theorem dX7_spell_4 : decode cX7_spell 4 = .ok (.iload_n 2, 1) := dq_28 (fd_r fcX7_spell (by decide +kernel))
theorem dX7_spell_5 : decode cX7_spell 5 = .ok (.bipush 6, 2) := dq_16 (a := 6) (fd_r fcX7_spell (by decide +kernel)) rfl
theorem dX7_spell_7 : decode cX7_spell 7 = .ok (.if_icmp .ge 37, 3) := dq_162 (a := 0) (b := 37) (fd_r fcX7_spell (by decide +kernel)) rfl
theorem dX7_spell_10 : decode cX7_spell 10 = .ok (.iload_n 1, 1) := dq_27 (fd_r fcX7_spell (by decide +kernel))
theorem dX7_spell_11 : decode cX7_spell 11 = .ok (.bipush 27, 2) := dq_16 (a := 27) (fd_r fcX7_spell (by decide +kernel)) rfl
theorem dX7_spell_13 : decode cX7_spell 13 = .ok (.imul, 1) := dq_104 (fd_r fcX7_spell (by decide +kernel))
theorem dX7_spell_14 : decode cX7_spell 14 = .ok (.iload_n 2, 1) := dq_28 (fd_r fcX7_spell (by decide +kernel))
theorem dX7_spell_15 : decode cX7_spell 15 = .ok (.aload_n 0, 1) := dq_42 (fd_r fcX7_spell (by decide +kernel))
theorem dX7_spell_16 : decode cX7_spell 16 = .ok (.invokevirtual 44, 3) := dq_182 (a := 0) (b := 44) (fd_r fcX7_spell (by decide +kernel)) rfl
theorem dX7_spell_19 : decode cX7_spell 19 = .ok (.if_icmp .ge 16, 3) := dq_162 (a := 0) (b := 16) (fd_r fcX7_spell (by decide +kernel)) rfl
theorem dX7_spell_22 : decode cX7_spell 22 = .ok (.aload_n 0, 1) := dq_42 (fd_r fcX7_spell (by decide +kernel))
theorem dX7_spell_23 : decode cX7_spell 23 = .ok (.iload_n 2, 1) := dq_28 (fd_r fcX7_spell (by decide +kernel))
theorem dX7_spell_24 : decode cX7_spell 24 = .ok (.invokevirtual 50, 3) := dq_182 (a := 0) (b := 50) (fd_r fcX7_spell (by decide +kernel)) rfl
theorem dX7_spell_27 : decode cX7_spell 27 = .ok (.bipush 97, 2) := dq_16 (a := 97) (fd_r fcX7_spell (by decide +kernel)) rfl
theorem dX7_spell_29 : decode cX7_spell 29 = .ok (.isub, 1) := dq_100 (fd_r fcX7_spell (by decide +kernel))
theorem dX7_spell_30 : decode cX7_spell 30 = .ok (.iconst 1, 1) := dq_4 (fd_r fcX7_spell (by decide +kernel))
theorem dX7_spell_31 : decode cX7_spell 31 = .ok (.iadd, 1) := dq_96 (fd_r fcX7_spell (by decide +kernel))
theorem dX7_spell_32 : decode cX7_spell 32 = .ok (.goto 4, 3) := dq_167 (a := 0) (b := 4) (fd_r fcX7_spell (by decide +kernel)) rfl
theorem dX7_spell_35 : decode cX7_spell 35 = .ok (.iconst 0, 1) := dq_3 (fd_r fcX7_spell (by decide +kernel))
theorem dX7_spell_36 : decode cX7_spell 36 = .ok (.iadd, 1) := dq_96 (fd_r fcX7_spell (by decide +kernel))
theorem dX7_spell_37 : decode cX7_spell 37 = .ok (.istore_n 1, 1) := dq_60 (fd_r fcX7_spell (by decide +kernel))
theorem dX7_spell_38 : decode cX7_spell 38 = .ok (.iinc 2 1, 3) := dq_132 (a := 2) (b := 1) (fd_r fcX7_spell (by decide +kernel)) rfl
theorem dX7_spell_41 : decode cX7_spell 41 = .ok (.goto (-37), 3) := dq_167 (a := 255) (b := 219) (fd_r fcX7_spell (by decide +kernel)) rfl
theorem dX7_spell_44 : decode cX7_spell 44 = .ok (.iload_n 1, 1) := dq_27 (fd_r fcX7_spell (by decide +kernel))
theorem dX7_spell_45 : decode cX7_spell 45 = .ok (.ireturn, 1) := dq_172 (fd_r fcX7_spell (by decide +kernel))
theorem dX7_begin_0 : decode cX7_begin 0 = .ok (.aload_n 0, 1) := dq_42 (fd_r fcX7_begin (by decide +kernel))
theorem dX7_begin_1 : decode cX7_begin 1 = .ok (.aload_n 1, 1) := dq_43 (fd_r fcX7_begin (by decide +kernel))
theorem dX7_begin_2 : decode cX7_begin 2 = .ok (.getfield 54, 3) := dq_180 (a := 0) (b := 54) (fd_r fcX7_begin (by decide +kernel)) rfl
theorem dX7_begin_5 : decode cX7_begin 5 = .ok (.putfield 41, 3) := dq_181 (a := 0) (b := 41) (fd_r fcX7_begin (by decide +kernel)) rfl
theorem dX7_begin_8 : decode cX7_begin 8 = .ok (.aload_n 0, 1) := dq_42 (fd_r fcX7_begin (by decide +kernel))
theorem dX7_begin_9 : decode cX7_begin 9 = .ok (.iconst 0, 1) := dq_3 (fd_r fcX7_begin (by decide +kernel))
theorem dX7_begin_10 : decode cX7_begin 10 = .ok (.aload_n 1, 1) := dq_43 (fd_r fcX7_begin (by decide +kernel))
theorem dX7_begin_11 : decode cX7_begin 11 = .ok (.getfield 59, 3) := dq_180 (a := 0) (b := 59) (fd_r fcX7_begin (by decide +kernel)) rfl
theorem dX7_begin_14 : decode cX7_begin 14 = .ok (.aload_n 0, 1) := dq_42 (fd_r fcX7_begin (by decide +kernel))
theorem dX7_begin_15 : decode cX7_begin 15 = .ok (.getfield 41, 3) := dq_180 (a := 0) (b := 41) (fd_r fcX7_begin (by decide +kernel)) rfl
theorem dX7_begin_18 : decode cX7_begin 18 = .ok (.arraylength, 1) := dq_190 (fd_r fcX7_begin (by decide +kernel))
theorem dX7_begin_19 : decode cX7_begin 19 = .ok (.invokestatic 62, 3) := dq_184 (a := 0) (b := 62) (fd_r fcX7_begin (by decide +kernel)) rfl
theorem dX7_begin_22 : decode cX7_begin 22 = .ok (.invokestatic 68, 3) := dq_184 (a := 0) (b := 68) (fd_r fcX7_begin (by decide +kernel)) rfl
theorem dX7_begin_25 : decode cX7_begin 25 = .ok (.putfield 71, 3) := dq_181 (a := 0) (b := 71) (fd_r fcX7_begin (by decide +kernel)) rfl
theorem dX7_begin_28 : decode cX7_begin 28 = .ok (.aload_n 0, 1) := dq_42 (fd_r fcX7_begin (by decide +kernel))
theorem dX7_begin_29 : decode cX7_begin 29 = .ok (.iconst 0, 1) := dq_3 (fd_r fcX7_begin (by decide +kernel))
theorem dX7_begin_30 : decode cX7_begin 30 = .ok (.putfield 72, 3) := dq_181 (a := 0) (b := 72) (fd_r fcX7_begin (by decide +kernel)) rfl
theorem dX7_begin_33 : decode cX7_begin 33 = .ok (.aload_n 0, 1) := dq_42 (fd_r fcX7_begin (by decide +kernel))
theorem dX7_begin_34 : decode cX7_begin 34 = .ok (.iconst 0, 1) := dq_3 (fd_r fcX7_begin (by decide +kernel))
theorem dX7_begin_35 : decode cX7_begin 35 = .ok (.putfield 75, 3) := dq_181 (a := 0) (b := 75) (fd_r fcX7_begin (by decide +kernel)) rfl
theorem dX7_begin_38 : decode cX7_begin 38 = .ok (.aload_n 0, 1) := dq_42 (fd_r fcX7_begin (by decide +kernel))
theorem dX7_begin_39 : decode cX7_begin 39 = .ok (.invokevirtual 78, 3) := dq_182 (a := 0) (b := 78) (fd_r fcX7_begin (by decide +kernel)) rfl
theorem dX7_begin_42 : decode cX7_begin 42 = .ok (.return_, 1) := dq_177 (fd_r fcX7_begin (by decide +kernel))
theorem dX7_step_0 : decode cX7_step 0 = .ok (.aload_n 0, 1) := dq_42 (fd_r fcX7_step (by decide +kernel))
theorem dX7_step_1 : decode cX7_step 1 = .ok (.getfield 75, 3) := dq_180 (a := 0) (b := 75) (fd_r fcX7_step (by decide +kernel)) rfl
theorem dX7_step_4 : decode cX7_step 4 = .ok (.iconst 1, 1) := dq_4 (fd_r fcX7_step (by decide +kernel))
theorem dX7_step_5 : decode cX7_step 5 = .ok (.if_icmp .eq 11, 3) := dq_159 (a := 0) (b := 11) (fd_r fcX7_step (by decide +kernel)) rfl
theorem dX7_step_8 : decode cX7_step 8 = .ok (.aload_n 0, 1) := dq_42 (fd_r fcX7_step (by decide +kernel))
theorem dX7_step_9 : decode cX7_step 9 = .ok (.getfield 75, 3) := dq_180 (a := 0) (b := 75) (fd_r fcX7_step (by decide +kernel)) rfl
theorem dX7_step_12 : decode cX7_step 12 = .ok (.iconst 2, 1) := dq_5 (fd_r fcX7_step (by decide +kernel))
theorem dX7_step_13 : decode cX7_step 13 = .ok (.if_icmp .ne 7, 3) := dq_160 (a := 0) (b := 7) (fd_r fcX7_step (by decide +kernel)) rfl
theorem dX7_step_16 : decode cX7_step 16 = .ok (.iconst 1, 1) := dq_4 (fd_r fcX7_step (by decide +kernel))
theorem dX7_step_17 : decode cX7_step 17 = .ok (.goto 4, 3) := dq_167 (a := 0) (b := 4) (fd_r fcX7_step (by decide +kernel)) rfl
theorem dX7_step_20 : decode cX7_step 20 = .ok (.iconst 0, 1) := dq_3 (fd_r fcX7_step (by decide +kernel))
theorem dX7_step_21 : decode cX7_step 21 = .ok (.istore_n 1, 1) := dq_60 (fd_r fcX7_step (by decide +kernel))
theorem dX7_step_22 : decode cX7_step 22 = .ok (.aload_n 0, 1) := dq_42 (fd_r fcX7_step (by decide +kernel))
theorem dX7_step_23 : decode cX7_step 23 = .ok (.getfield 72, 3) := dq_180 (a := 0) (b := 72) (fd_r fcX7_step (by decide +kernel)) rfl
theorem dX7_step_26 : decode cX7_step 26 = .ok (.istore_n 2, 1) := dq_61 (fd_r fcX7_step (by decide +kernel))
theorem dX7_step_27 : decode cX7_step 27 = .ok (.aload_n 0, 1) := dq_42 (fd_r fcX7_step (by decide +kernel))
theorem dX7_step_28 : decode cX7_step 28 = .ok (.getfield 72, 3) := dq_180 (a := 0) (b := 72) (fd_r fcX7_step (by decide +kernel)) rfl
theorem dX7_step_31 : decode cX7_step 31 = .ok (.ifCond .lt 55, 3) := dq_155 (a := 0) (b := 55) (fd_r fcX7_step (by decide +kernel)) rfl
theorem dX7_step_34 : decode cX7_step 34 = .ok (.aload_n 0, 1) := dq_42 (fd_r fcX7_step (by decide +kernel))
theorem dX7_step_35 : decode cX7_step 35 = .ok (.getfield 72, 3) := dq_180 (a := 0) (b := 72) (fd_r fcX7_step (by decide +kernel)) rfl
theorem dX7_step_38 : decode cX7_step 38 = .ok (.aload_n 0, 1) := dq_42 (fd_r fcX7_step (by decide +kernel))
theorem dX7_step_39 : decode cX7_step 39 = .ok (.getfield 71, 3) := dq_180 (a := 0) (b := 71) (fd_r fcX7_step (by decide +kernel)) rfl
theorem dX7_step_42 : decode cX7_step 42 = .ok (.if_icmp .ge 44, 3) := dq_162 (a := 0) (b := 44) (fd_r fcX7_step (by decide +kernel)) rfl
theorem dX7_step_45 : decode cX7_step 45 = .ok (.aload_n 0, 1) := dq_42 (fd_r fcX7_step (by decide +kernel))
theorem dX7_step_46 : decode cX7_step 46 = .ok (.getfield 41, 3) := dq_180 (a := 0) (b := 41) (fd_r fcX7_step (by decide +kernel)) rfl
theorem dX7_step_49 : decode cX7_step 49 = .ok (.aload_n 0, 1) := dq_42 (fd_r fcX7_step (by decide +kernel))
theorem dX7_step_50 : decode cX7_step 50 = .ok (.getfield 72, 3) := dq_180 (a := 0) (b := 72) (fd_r fcX7_step (by decide +kernel)) rfl
theorem dX7_step_53 : decode cX7_step 53 = .ok (.iaload, 1) := dq_46 (fd_r fcX7_step (by decide +kernel))
theorem dX7_step_54 : decode cX7_step 54 = .ok (.bipush 32, 2) := dq_16 (a := 32) (fd_r fcX7_step (by decide +kernel)) rfl
theorem dX7_step_56 : decode cX7_step 56 = .ok (.if_icmp .eq 17, 3) := dq_159 (a := 0) (b := 17) (fd_r fcX7_step (by decide +kernel)) rfl
theorem dX7_step_59 : decode cX7_step 59 = .ok (.aload_n 0, 1) := dq_42 (fd_r fcX7_step (by decide +kernel))
theorem dX7_step_60 : decode cX7_step 60 = .ok (.getfield 41, 3) := dq_180 (a := 0) (b := 41) (fd_r fcX7_step (by decide +kernel)) rfl
theorem dX7_step_63 : decode cX7_step 63 = .ok (.aload_n 0, 1) := dq_42 (fd_r fcX7_step (by decide +kernel))
theorem dX7_step_64 : decode cX7_step 64 = .ok (.getfield 72, 3) := dq_180 (a := 0) (b := 72) (fd_r fcX7_step (by decide +kernel)) rfl
theorem dX7_step_67 : decode cX7_step 67 = .ok (.iaload, 1) := dq_46 (fd_r fcX7_step (by decide +kernel))
theorem dX7_step_68 : decode cX7_step 68 = .ok (.bipush 10, 2) := dq_16 (a := 10) (fd_r fcX7_step (by decide +kernel)) rfl
theorem dX7_step_70 : decode cX7_step 70 = .ok (.if_icmp .ne 16, 3) := dq_160 (a := 0) (b := 16) (fd_r fcX7_step (by decide +kernel)) rfl
theorem dX7_step_73 : decode cX7_step 73 = .ok (.aload_n 0, 1) := dq_42 (fd_r fcX7_step (by decide +kernel))
theorem dX7_step_74 : decode cX7_step 74 = .ok (.dup, 1) := dq_89 (fd_r fcX7_step (by decide +kernel))
theorem dX7_step_75 : decode cX7_step 75 = .ok (.getfield 72, 3) := dq_180 (a := 0) (b := 72) (fd_r fcX7_step (by decide +kernel)) rfl
theorem dX7_step_78 : decode cX7_step 78 = .ok (.iconst 1, 1) := dq_4 (fd_r fcX7_step (by decide +kernel))
theorem dX7_step_79 : decode cX7_step 79 = .ok (.iadd, 1) := dq_96 (fd_r fcX7_step (by decide +kernel))
theorem dX7_step_80 : decode cX7_step 80 = .ok (.putfield 72, 3) := dq_181 (a := 0) (b := 72) (fd_r fcX7_step (by decide +kernel)) rfl
theorem dX7_step_83 : decode cX7_step 83 = .ok (.goto (-56), 3) := dq_167 (a := 255) (b := 200) (fd_r fcX7_step (by decide +kernel)) rfl
theorem dX7_step_86 : decode cX7_step 86 = .ok (.aload_n 0, 1) := dq_42 (fd_r fcX7_step (by decide +kernel))
theorem dX7_step_87 : decode cX7_step 87 = .ok (.aload_n 0, 1) := dq_42 (fd_r fcX7_step (by decide +kernel))
theorem dX7_step_88 : decode cX7_step 88 = .ok (.getfield 72, 3) := dq_180 (a := 0) (b := 72) (fd_r fcX7_step (by decide +kernel)) rfl
theorem dX7_step_91 : decode cX7_step 91 = .ok (.putfield 81, 3) := dq_181 (a := 0) (b := 81) (fd_r fcX7_step (by decide +kernel)) rfl
theorem dX7_step_94 : decode cX7_step 94 = .ok (.aload_n 0, 1) := dq_42 (fd_r fcX7_step (by decide +kernel))
theorem dX7_step_95 : decode cX7_step 95 = .ok (.aload_n 0, 1) := dq_42 (fd_r fcX7_step (by decide +kernel))
theorem dX7_step_96 : decode cX7_step 96 = .ok (.getfield 72, 3) := dq_180 (a := 0) (b := 72) (fd_r fcX7_step (by decide +kernel)) rfl
theorem dX7_step_99 : decode cX7_step 99 = .ok (.putfield 84, 3) := dq_181 (a := 0) (b := 84) (fd_r fcX7_step (by decide +kernel)) rfl
theorem dX7_step_102 : decode cX7_step 102 = .ok (.aload_n 0, 1) := dq_42 (fd_r fcX7_step (by decide +kernel))
theorem dX7_step_103 : decode cX7_step 103 = .ok (.iconst (-1), 1) := dq_2 (fd_r fcX7_step (by decide +kernel))
theorem dX7_step_104 : decode cX7_step 104 = .ok (.putfield 87, 3) := dq_181 (a := 0) (b := 87) (fd_r fcX7_step (by decide +kernel)) rfl
theorem dX7_step_107 : decode cX7_step 107 = .ok (.aload_n 0, 1) := dq_42 (fd_r fcX7_step (by decide +kernel))
theorem dX7_step_108 : decode cX7_step 108 = .ok (.iconst 0, 1) := dq_3 (fd_r fcX7_step (by decide +kernel))
theorem dX7_step_109 : decode cX7_step 109 = .ok (.putfield 90, 3) := dq_181 (a := 0) (b := 90) (fd_r fcX7_step (by decide +kernel)) rfl
theorem dX7_step_112 : decode cX7_step 112 = .ok (.aload_n 0, 1) := dq_42 (fd_r fcX7_step (by decide +kernel))
theorem dX7_step_113 : decode cX7_step 113 = .ok (.getfield 72, 3) := dq_180 (a := 0) (b := 72) (fd_r fcX7_step (by decide +kernel)) rfl
theorem dX7_step_116 : decode cX7_step 116 = .ok (.ifCond .lt 14, 3) := dq_155 (a := 0) (b := 14) (fd_r fcX7_step (by decide +kernel)) rfl
theorem dX7_step_119 : decode cX7_step 119 = .ok (.aload_n 0, 1) := dq_42 (fd_r fcX7_step (by decide +kernel))
theorem dX7_step_120 : decode cX7_step 120 = .ok (.getfield 72, 3) := dq_180 (a := 0) (b := 72) (fd_r fcX7_step (by decide +kernel)) rfl
theorem dX7_step_123 : decode cX7_step 123 = .ok (.aload_n 0, 1) := dq_42 (fd_r fcX7_step (by decide +kernel))
theorem dX7_step_124 : decode cX7_step 124 = .ok (.getfield 71, 3) := dq_180 (a := 0) (b := 71) (fd_r fcX7_step (by decide +kernel)) rfl
theorem dX7_step_127 : decode cX7_step 127 = .ok (.if_icmp .lt 9, 3) := dq_161 (a := 0) (b := 9) (fd_r fcX7_step (by decide +kernel)) rfl
theorem dX7_step_130 : decode cX7_step 130 = .ok (.aload_n 0, 1) := dq_42 (fd_r fcX7_step (by decide +kernel))
theorem dX7_step_131 : decode cX7_step 131 = .ok (.iconst 0, 1) := dq_3 (fd_r fcX7_step (by decide +kernel))
theorem dX7_step_132 : decode cX7_step 132 = .ok (.putfield 75, 3) := dq_181 (a := 0) (b := 75) (fd_r fcX7_step (by decide +kernel)) rfl
theorem dX7_step_135 : decode cX7_step 135 = .ok (.return_, 1) := dq_177 (fd_r fcX7_step (by decide +kernel))
theorem dX7_step_136 : decode cX7_step 136 = .ok (.aload_n 0, 1) := dq_42 (fd_r fcX7_step (by decide +kernel))
theorem dX7_step_137 : decode cX7_step 137 = .ok (.getfield 41, 3) := dq_180 (a := 0) (b := 41) (fd_r fcX7_step (by decide +kernel)) rfl
theorem dX7_step_140 : decode cX7_step 140 = .ok (.aload_n 0, 1) := dq_42 (fd_r fcX7_step (by decide +kernel))
theorem dX7_step_141 : decode cX7_step 141 = .ok (.getfield 72, 3) := dq_180 (a := 0) (b := 72) (fd_r fcX7_step (by decide +kernel)) rfl
theorem dX7_step_144 : decode cX7_step 144 = .ok (.iaload, 1) := dq_46 (fd_r fcX7_step (by decide +kernel))
theorem dX7_step_145 : decode cX7_step 145 = .ok (.istore_n 3, 1) := dq_62 (fd_r fcX7_step (by decide +kernel))
theorem dX7_step_146 : decode cX7_step 146 = .ok (.iload_n 3, 1) := dq_29 (fd_r fcX7_step (by decide +kernel))
theorem dX7_step_147 : decode cX7_step 147 = .ok (.bipush 97, 2) := dq_16 (a := 97) (fd_r fcX7_step (by decide +kernel)) rfl
theorem dX7_step_149 : decode cX7_step 149 = .ok (.if_icmp .lt 13, 3) := dq_161 (a := 0) (b := 13) (fd_r fcX7_step (by decide +kernel)) rfl
theorem dX7_step_152 : decode cX7_step 152 = .ok (.iload_n 3, 1) := dq_29 (fd_r fcX7_step (by decide +kernel))
theorem dX7_step_153 : decode cX7_step 153 = .ok (.bipush 122, 2) := dq_16 (a := 122) (fd_r fcX7_step (by decide +kernel)) rfl
theorem dX7_step_155 : decode cX7_step 155 = .ok (.if_icmp .gt 7, 3) := dq_163 (a := 0) (b := 7) (fd_r fcX7_step (by decide +kernel)) rfl
theorem dX7_step_158 : decode cX7_step 158 = .ok (.iconst 1, 1) := dq_4 (fd_r fcX7_step (by decide +kernel))
theorem dX7_step_159 : decode cX7_step 159 = .ok (.goto 4, 3) := dq_167 (a := 0) (b := 4) (fd_r fcX7_step (by decide +kernel)) rfl
theorem dX7_step_162 : decode cX7_step 162 = .ok (.iconst 0, 1) := dq_3 (fd_r fcX7_step (by decide +kernel))
theorem dX7_step_163 : decode cX7_step 163 = .ok (.istore 4, 2) := dq_54 (a := 4) (fd_r fcX7_step (by decide +kernel))
theorem dX7_step_165 : decode cX7_step 165 = .ok (.iload_n 3, 1) := dq_29 (fd_r fcX7_step (by decide +kernel))
theorem dX7_step_166 : decode cX7_step 166 = .ok (.bipush 48, 2) := dq_16 (a := 48) (fd_r fcX7_step (by decide +kernel)) rfl
theorem dX7_step_168 : decode cX7_step 168 = .ok (.if_icmp .lt 13, 3) := dq_161 (a := 0) (b := 13) (fd_r fcX7_step (by decide +kernel)) rfl
end
end
section
section
theorem dX7_step_171 : decode cX7_step 171 = .ok (.iload_n 3, 1) := dq_29 (fd_r fcX7_step (by decide +kernel))
theorem dX7_step_172 : decode cX7_step 172 = .ok (.bipush 57, 2) := dq_16 (a := 57) (fd_r fcX7_step (by decide +kernel)) rfl
theorem dX7_step_174 : decode cX7_step 174 = .ok (.if_icmp .gt 7, 3) := dq_163 (a := 0) (b := 7) (fd_r fcX7_step (by decide +kernel)) rfl
theorem dX7_step_177 : decode cX7_step 177 = .ok (.iconst 1, 1) := dq_4 (fd_r fcX7_step (by decide +kernel))
theorem dX7_step_178 : decode cX7_step 178 = .ok (.goto 4, 3) := dq_167 (a := 0) (b := 4) (fd_r fcX7_step (by decide +kernel)) rfl
theorem dX7_step_181 : decode cX7_step 181 = .ok (.iconst 0, 1) := dq_3 (fd_r fcX7_step (by decide +kernel))
theorem dX7_step_182 : decode cX7_step 182 = .ok (.istore 5, 2) := dq_54 (a := 5) (fd_r fcX7_step (by decide +kernel))
theorem dX7_step_184 : decode cX7_step 184 = .ok (.iload 4, 2) := dq_21 (a := 4) (fd_r fcX7_step (by decide +kernel))
theorem dX7_step_186 : decode cX7_step 186 = .ok (.ifCond .ne 31, 3) := dq_154 (a := 0) (b := 31) (fd_r fcX7_step (by decide +kernel)) rfl
theorem dX7_step_189 : decode cX7_step 189 = .ok (.iload 5, 2) := dq_21 (a := 5) (fd_r fcX7_step (by decide +kernel))
theorem dX7_step_191 : decode cX7_step 191 = .ok (.ifCond .ne 26, 3) := dq_154 (a := 0) (b := 26) (fd_r fcX7_step (by decide +kernel)) rfl
theorem dX7_step_194 : decode cX7_step 194 = .ok (.aload_n 0, 1) := dq_42 (fd_r fcX7_step (by decide +kernel))
theorem dX7_step_195 : decode cX7_step 195 = .ok (.iconst 3, 1) := dq_6 (fd_r fcX7_step (by decide +kernel))
theorem dX7_step_196 : decode cX7_step 196 = .ok (.putfield 75, 3) := dq_181 (a := 0) (b := 75) (fd_r fcX7_step (by decide +kernel)) rfl
theorem dX7_step_199 : decode cX7_step 199 = .ok (.aload_n 0, 1) := dq_42 (fd_r fcX7_step (by decide +kernel))
theorem dX7_step_200 : decode cX7_step 200 = .ok (.iload_n 3, 1) := dq_29 (fd_r fcX7_step (by decide +kernel))
theorem dX7_step_201 : decode cX7_step 201 = .ok (.putfield 90, 3) := dq_181 (a := 0) (b := 90) (fd_r fcX7_step (by decide +kernel)) rfl
theorem dX7_step_204 : decode cX7_step 204 = .ok (.aload_n 0, 1) := dq_42 (fd_r fcX7_step (by decide +kernel))
theorem dX7_step_205 : decode cX7_step 205 = .ok (.dup, 1) := dq_89 (fd_r fcX7_step (by decide +kernel))
theorem dX7_step_206 : decode cX7_step 206 = .ok (.getfield 72, 3) := dq_180 (a := 0) (b := 72) (fd_r fcX7_step (by decide +kernel)) rfl
theorem dX7_step_209 : decode cX7_step 209 = .ok (.iconst 1, 1) := dq_4 (fd_r fcX7_step (by decide +kernel))
theorem dX7_step_210 : decode cX7_step 210 = .ok (.iadd, 1) := dq_96 (fd_r fcX7_step (by decide +kernel))
theorem dX7_step_211 : decode cX7_step 211 = .ok (.putfield 72, 3) := dq_181 (a := 0) (b := 72) (fd_r fcX7_step (by decide +kernel)) rfl
theorem dX7_step_214 : decode cX7_step 214 = .ok (.goto 39, 3) := dq_167 (a := 0) (b := 39) (fd_r fcX7_step (by decide +kernel)) rfl
theorem dX7_step_217 : decode cX7_step 217 = .ok (.iload_n 1, 1) := dq_27 (fd_r fcX7_step (by decide +kernel))
theorem dX7_step_218 : decode cX7_step 218 = .ok (.ifCond .eq 19, 3) := dq_153 (a := 0) (b := 19) (fd_r fcX7_step (by decide +kernel)) rfl
theorem dX7_step_221 : decode cX7_step 221 = .ok (.iload_n 2, 1) := dq_28 (fd_r fcX7_step (by decide +kernel))
theorem dX7_step_222 : decode cX7_step 222 = .ok (.aload_n 0, 1) := dq_42 (fd_r fcX7_step (by decide +kernel))
theorem dX7_step_223 : decode cX7_step 223 = .ok (.getfield 81, 3) := dq_180 (a := 0) (b := 81) (fd_r fcX7_step (by decide +kernel)) rfl
theorem dX7_step_226 : decode cX7_step 226 = .ok (.if_icmp .ne 11, 3) := dq_160 (a := 0) (b := 11) (fd_r fcX7_step (by decide +kernel)) rfl
theorem dX7_step_229 : decode cX7_step 229 = .ok (.aload_n 0, 1) := dq_42 (fd_r fcX7_step (by decide +kernel))
theorem dX7_step_230 : decode cX7_step 230 = .ok (.iconst 4, 1) := dq_7 (fd_r fcX7_step (by decide +kernel))
theorem dX7_step_231 : decode cX7_step 231 = .ok (.putfield 75, 3) := dq_181 (a := 0) (b := 75) (fd_r fcX7_step (by decide +kernel)) rfl
theorem dX7_step_234 : decode cX7_step 234 = .ok (.goto 19, 3) := dq_167 (a := 0) (b := 19) (fd_r fcX7_step (by decide +kernel)) rfl
theorem dX7_step_237 : decode cX7_step 237 = .ok (.iload 4, 2) := dq_21 (a := 4) (fd_r fcX7_step (by decide +kernel))
theorem dX7_step_239 : decode cX7_step 239 = .ok (.ifCond .eq 10, 3) := dq_153 (a := 0) (b := 10) (fd_r fcX7_step (by decide +kernel)) rfl
theorem dX7_step_242 : decode cX7_step 242 = .ok (.aload_n 0, 1) := dq_42 (fd_r fcX7_step (by decide +kernel))
theorem dX7_step_243 : decode cX7_step 243 = .ok (.invokevirtual 93, 3) := dq_182 (a := 0) (b := 93) (fd_r fcX7_step (by decide +kernel)) rfl
theorem dX7_step_246 : decode cX7_step 246 = .ok (.goto 7, 3) := dq_167 (a := 0) (b := 7) (fd_r fcX7_step (by decide +kernel)) rfl
theorem dX7_step_249 : decode cX7_step 249 = .ok (.aload_n 0, 1) := dq_42 (fd_r fcX7_step (by decide +kernel))
theorem dX7_step_250 : decode cX7_step 250 = .ok (.invokevirtual 96, 3) := dq_182 (a := 0) (b := 96) (fd_r fcX7_step (by decide +kernel)) rfl
theorem dX7_step_253 : decode cX7_step 253 = .ok (.return_, 1) := dq_177 (fd_r fcX7_step (by decide +kernel))
theorem dX7_stepWord_0 : decode cX7_stepWord 0 = .ok (.aload_n 0, 1) := dq_42 (fd_r fcX7_stepWord (by decide +kernel))
theorem dX7_stepWord_1 : decode cX7_stepWord 1 = .ok (.iconst 1, 1) := dq_4 (fd_r fcX7_stepWord (by decide +kernel))
theorem dX7_stepWord_2 : decode cX7_stepWord 2 = .ok (.putfield 75, 3) := dq_181 (a := 0) (b := 75) (fd_r fcX7_stepWord (by decide +kernel)) rfl
theorem dX7_stepWord_5 : decode cX7_stepWord 5 = .ok (.iconst 0, 1) := dq_3 (fd_r fcX7_stepWord (by decide +kernel))
theorem dX7_stepWord_6 : decode cX7_stepWord 6 = .ok (.istore_n 1, 1) := dq_60 (fd_r fcX7_stepWord (by decide +kernel))
theorem dX7_stepWord_7 : decode cX7_stepWord 7 = .ok (.aload_n 0, 1) := dq_42 (fd_r fcX7_stepWord (by decide +kernel))
theorem dX7_stepWord_8 : decode cX7_stepWord 8 = .ok (.getfield 72, 3) := dq_180 (a := 0) (b := 72) (fd_r fcX7_stepWord (by decide +kernel)) rfl
theorem dX7_stepWord_11 : decode cX7_stepWord 11 = .ok (.ifCond .lt 104, 3) := dq_155 (a := 0) (b := 104) (fd_r fcX7_stepWord (by decide +kernel)) rfl
theorem dX7_stepWord_14 : decode cX7_stepWord 14 = .ok (.aload_n 0, 1) := dq_42 (fd_r fcX7_stepWord (by decide +kernel))
theorem dX7_stepWord_15 : decode cX7_stepWord 15 = .ok (.getfield 72, 3) := dq_180 (a := 0) (b := 72) (fd_r fcX7_stepWord (by decide +kernel)) rfl
theorem dX7_stepWord_18 : decode cX7_stepWord 18 = .ok (.aload_n 0, 1) := dq_42 (fd_r fcX7_stepWord (by decide +kernel))
theorem dX7_stepWord_19 : decode cX7_stepWord 19 = .ok (.getfield 71, 3) := dq_180 (a := 0) (b := 71) (fd_r fcX7_stepWord (by decide +kernel)) rfl
theorem dX7_stepWord_22 : decode cX7_stepWord 22 = .ok (.if_icmp .ge 93, 3) := dq_162 (a := 0) (b := 93) (fd_r fcX7_stepWord (by decide +kernel)) rfl
theorem dX7_stepWord_25 : decode cX7_stepWord 25 = .ok (.aload_n 0, 1) := dq_42 (fd_r fcX7_stepWord (by decide +kernel))
theorem dX7_stepWord_26 : decode cX7_stepWord 26 = .ok (.getfield 41, 3) := dq_180 (a := 0) (b := 41) (fd_r fcX7_stepWord (by decide +kernel)) rfl
theorem dX7_stepWord_29 : decode cX7_stepWord 29 = .ok (.aload_n 0, 1) := dq_42 (fd_r fcX7_stepWord (by decide +kernel))
theorem dX7_stepWord_30 : decode cX7_stepWord 30 = .ok (.getfield 72, 3) := dq_180 (a := 0) (b := 72) (fd_r fcX7_stepWord (by decide +kernel)) rfl
theorem dX7_stepWord_33 : decode cX7_stepWord 33 = .ok (.iaload, 1) := dq_46 (fd_r fcX7_stepWord (by decide +kernel))
theorem dX7_stepWord_34 : decode cX7_stepWord 34 = .ok (.bipush 97, 2) := dq_16 (a := 97) (fd_r fcX7_stepWord (by decide +kernel)) rfl
theorem dX7_stepWord_36 : decode cX7_stepWord 36 = .ok (.if_icmp .lt 79, 3) := dq_161 (a := 0) (b := 79) (fd_r fcX7_stepWord (by decide +kernel)) rfl
theorem dX7_stepWord_39 : decode cX7_stepWord 39 = .ok (.aload_n 0, 1) := dq_42 (fd_r fcX7_stepWord (by decide +kernel))
theorem dX7_stepWord_40 : decode cX7_stepWord 40 = .ok (.getfield 41, 3) := dq_180 (a := 0) (b := 41) (fd_r fcX7_stepWord (by decide +kernel)) rfl
theorem dX7_stepWord_43 : decode cX7_stepWord 43 = .ok (.aload_n 0, 1) := dq_42 (fd_r fcX7_stepWord (by decide +kernel))
theorem dX7_stepWord_44 : decode cX7_stepWord 44 = .ok (.getfield 72, 3) := dq_180 (a := 0) (b := 72) (fd_r fcX7_stepWord (by decide +kernel)) rfl
theorem dX7_stepWord_47 : decode cX7_stepWord 47 = .ok (.iaload, 1) := dq_46 (fd_r fcX7_stepWord (by decide +kernel))
theorem dX7_stepWord_48 : decode cX7_stepWord 48 = .ok (.bipush 122, 2) := dq_16 (a := 122) (fd_r fcX7_stepWord (by decide +kernel)) rfl
theorem dX7_stepWord_50 : decode cX7_stepWord 50 = .ok (.if_icmp .gt 65, 3) := dq_163 (a := 0) (b := 65) (fd_r fcX7_stepWord (by decide +kernel)) rfl
theorem dX7_stepWord_53 : decode cX7_stepWord 53 = .ok (.iload_n 1, 1) := dq_27 (fd_r fcX7_stepWord (by decide +kernel))
theorem dX7_stepWord_54 : decode cX7_stepWord 54 = .ok (.bipush 6, 2) := dq_16 (a := 6) (fd_r fcX7_stepWord (by decide +kernel)) rfl
theorem dX7_stepWord_56 : decode cX7_stepWord 56 = .ok (.if_icmp .ne 17, 3) := dq_160 (a := 0) (b := 17) (fd_r fcX7_stepWord (by decide +kernel)) rfl
theorem dX7_stepWord_59 : decode cX7_stepWord 59 = .ok (.aload_n 0, 1) := dq_42 (fd_r fcX7_stepWord (by decide +kernel))
theorem dX7_stepWord_60 : decode cX7_stepWord 60 = .ok (.iconst 4, 1) := dq_7 (fd_r fcX7_stepWord (by decide +kernel))
theorem dX7_stepWord_61 : decode cX7_stepWord 61 = .ok (.putfield 75, 3) := dq_181 (a := 0) (b := 75) (fd_r fcX7_stepWord (by decide +kernel)) rfl
theorem dX7_stepWord_64 : decode cX7_stepWord 64 = .ok (.aload_n 0, 1) := dq_42 (fd_r fcX7_stepWord (by decide +kernel))
theorem dX7_stepWord_65 : decode cX7_stepWord 65 = .ok (.aload_n 0, 1) := dq_42 (fd_r fcX7_stepWord (by decide +kernel))
theorem dX7_stepWord_66 : decode cX7_stepWord 66 = .ok (.getfield 72, 3) := dq_180 (a := 0) (b := 72) (fd_r fcX7_stepWord (by decide +kernel)) rfl
theorem dX7_stepWord_69 : decode cX7_stepWord 69 = .ok (.putfield 84, 3) := dq_181 (a := 0) (b := 84) (fd_r fcX7_stepWord (by decide +kernel)) rfl
theorem dX7_stepWord_72 : decode cX7_stepWord 72 = .ok (.return_, 1) := dq_177 (fd_r fcX7_stepWord (by decide +kernel))
theorem dX7_stepWord_73 : decode cX7_stepWord 73 = .ok (.aload_n 0, 1) := dq_42 (fd_r fcX7_stepWord (by decide +kernel))
theorem dX7_stepWord_74 : decode cX7_stepWord 74 = .ok (.aload_n 0, 1) := dq_42 (fd_r fcX7_stepWord (by decide +kernel))
theorem dX7_stepWord_75 : decode cX7_stepWord 75 = .ok (.getfield 90, 3) := dq_180 (a := 0) (b := 90) (fd_r fcX7_stepWord (by decide +kernel)) rfl
theorem dX7_stepWord_78 : decode cX7_stepWord 78 = .ok (.bipush 27, 2) := dq_16 (a := 27) (fd_r fcX7_stepWord (by decide +kernel)) rfl
theorem dX7_stepWord_80 : decode cX7_stepWord 80 = .ok (.imul, 1) := dq_104 (fd_r fcX7_stepWord (by decide +kernel))
theorem dX7_stepWord_81 : decode cX7_stepWord 81 = .ok (.aload_n 0, 1) := dq_42 (fd_r fcX7_stepWord (by decide +kernel))
theorem dX7_stepWord_82 : decode cX7_stepWord 82 = .ok (.getfield 41, 3) := dq_180 (a := 0) (b := 41) (fd_r fcX7_stepWord (by decide +kernel)) rfl
theorem dX7_stepWord_85 : decode cX7_stepWord 85 = .ok (.aload_n 0, 1) := dq_42 (fd_r fcX7_stepWord (by decide +kernel))
theorem dX7_stepWord_86 : decode cX7_stepWord 86 = .ok (.getfield 72, 3) := dq_180 (a := 0) (b := 72) (fd_r fcX7_stepWord (by decide +kernel)) rfl
theorem dX7_stepWord_89 : decode cX7_stepWord 89 = .ok (.iaload, 1) := dq_46 (fd_r fcX7_stepWord (by decide +kernel))
theorem dX7_stepWord_90 : decode cX7_stepWord 90 = .ok (.iadd, 1) := dq_96 (fd_r fcX7_stepWord (by decide +kernel))
theorem dX7_stepWord_91 : decode cX7_stepWord 91 = .ok (.bipush 97, 2) := dq_16 (a := 97) (fd_r fcX7_stepWord (by decide +kernel)) rfl
theorem dX7_stepWord_93 : decode cX7_stepWord 93 = .ok (.isub, 1) := dq_100 (fd_r fcX7_stepWord (by decide +kernel))
theorem dX7_stepWord_94 : decode cX7_stepWord 94 = .ok (.iconst 1, 1) := dq_4 (fd_r fcX7_stepWord (by decide +kernel))
theorem dX7_stepWord_95 : decode cX7_stepWord 95 = .ok (.iadd, 1) := dq_96 (fd_r fcX7_stepWord (by decide +kernel))
theorem dX7_stepWord_96 : decode cX7_stepWord 96 = .ok (.putfield 90, 3) := dq_181 (a := 0) (b := 90) (fd_r fcX7_stepWord (by decide +kernel)) rfl
theorem dX7_stepWord_99 : decode cX7_stepWord 99 = .ok (.iinc 1 1, 3) := dq_132 (a := 1) (b := 1) (fd_r fcX7_stepWord (by decide +kernel)) rfl
theorem dX7_stepWord_102 : decode cX7_stepWord 102 = .ok (.aload_n 0, 1) := dq_42 (fd_r fcX7_stepWord (by decide +kernel))
theorem dX7_stepWord_103 : decode cX7_stepWord 103 = .ok (.dup, 1) := dq_89 (fd_r fcX7_stepWord (by decide +kernel))
theorem dX7_stepWord_104 : decode cX7_stepWord 104 = .ok (.getfield 72, 3) := dq_180 (a := 0) (b := 72) (fd_r fcX7_stepWord (by decide +kernel)) rfl
theorem dX7_stepWord_107 : decode cX7_stepWord 107 = .ok (.iconst 1, 1) := dq_4 (fd_r fcX7_stepWord (by decide +kernel))
theorem dX7_stepWord_108 : decode cX7_stepWord 108 = .ok (.iadd, 1) := dq_96 (fd_r fcX7_stepWord (by decide +kernel))
theorem dX7_stepWord_109 : decode cX7_stepWord 109 = .ok (.putfield 72, 3) := dq_181 (a := 0) (b := 72) (fd_r fcX7_stepWord (by decide +kernel)) rfl
theorem dX7_stepWord_112 : decode cX7_stepWord 112 = .ok (.goto (-105), 3) := dq_167 (a := 255) (b := 151) (fd_r fcX7_stepWord (by decide +kernel)) rfl
theorem dX7_stepWord_115 : decode cX7_stepWord 115 = .ok (.iload_n 1, 1) := dq_27 (fd_r fcX7_stepWord (by decide +kernel))
theorem dX7_stepWord_116 : decode cX7_stepWord 116 = .ok (.istore_n 2, 1) := dq_61 (fd_r fcX7_stepWord (by decide +kernel))
theorem dX7_stepWord_117 : decode cX7_stepWord 117 = .ok (.iload_n 2, 1) := dq_28 (fd_r fcX7_stepWord (by decide +kernel))
theorem dX7_stepWord_118 : decode cX7_stepWord 118 = .ok (.bipush 6, 2) := dq_16 (a := 6) (fd_r fcX7_stepWord (by decide +kernel)) rfl
theorem dX7_stepWord_120 : decode cX7_stepWord 120 = .ok (.if_icmp .ge 20, 3) := dq_162 (a := 0) (b := 20) (fd_r fcX7_stepWord (by decide +kernel)) rfl
theorem dX7_stepWord_123 : decode cX7_stepWord 123 = .ok (.aload_n 0, 1) := dq_42 (fd_r fcX7_stepWord (by decide +kernel))
theorem dX7_stepWord_124 : decode cX7_stepWord 124 = .ok (.dup, 1) := dq_89 (fd_r fcX7_stepWord (by decide +kernel))
theorem dX7_stepWord_125 : decode cX7_stepWord 125 = .ok (.getfield 90, 3) := dq_180 (a := 0) (b := 90) (fd_r fcX7_stepWord (by decide +kernel)) rfl
theorem dX7_stepWord_128 : decode cX7_stepWord 128 = .ok (.bipush 27, 2) := dq_16 (a := 27) (fd_r fcX7_stepWord (by decide +kernel)) rfl
theorem dX7_stepWord_130 : decode cX7_stepWord 130 = .ok (.imul, 1) := dq_104 (fd_r fcX7_stepWord (by decide +kernel))
theorem dX7_stepWord_131 : decode cX7_stepWord 131 = .ok (.putfield 90, 3) := dq_181 (a := 0) (b := 90) (fd_r fcX7_stepWord (by decide +kernel)) rfl
theorem dX7_stepWord_134 : decode cX7_stepWord 134 = .ok (.iinc 2 1, 3) := dq_132 (a := 2) (b := 1) (fd_r fcX7_stepWord (by decide +kernel)) rfl
theorem dX7_stepWord_137 : decode cX7_stepWord 137 = .ok (.goto (-20), 3) := dq_167 (a := 255) (b := 236) (fd_r fcX7_stepWord (by decide +kernel)) rfl
theorem dX7_stepWord_140 : decode cX7_stepWord 140 = .ok (.iconst 0, 1) := dq_3 (fd_r fcX7_stepWord (by decide +kernel))
theorem dX7_stepWord_141 : decode cX7_stepWord 141 = .ok (.istore_n 2, 1) := dq_61 (fd_r fcX7_stepWord (by decide +kernel))
theorem dX7_stepWord_142 : decode cX7_stepWord 142 = .ok (.iload_n 2, 1) := dq_28 (fd_r fcX7_stepWord (by decide +kernel))
theorem dX7_stepWord_143 : decode cX7_stepWord 143 = .ok (.aload_n 0, 1) := dq_42 (fd_r fcX7_stepWord (by decide +kernel))
theorem dX7_stepWord_144 : decode cX7_stepWord 144 = .ok (.getfield 37, 3) := dq_180 (a := 0) (b := 37) (fd_r fcX7_stepWord (by decide +kernel)) rfl
theorem dX7_stepWord_147 : decode cX7_stepWord 147 = .ok (.arraylength, 1) := dq_190 (fd_r fcX7_stepWord (by decide +kernel))
theorem dX7_stepWord_148 : decode cX7_stepWord 148 = .ok (.if_icmp .ge 27, 3) := dq_162 (a := 0) (b := 27) (fd_r fcX7_stepWord (by decide +kernel)) rfl
theorem dX7_stepWord_151 : decode cX7_stepWord 151 = .ok (.aload_n 0, 1) := dq_42 (fd_r fcX7_stepWord (by decide +kernel))
theorem dX7_stepWord_152 : decode cX7_stepWord 152 = .ok (.getfield 37, 3) := dq_180 (a := 0) (b := 37) (fd_r fcX7_stepWord (by decide +kernel)) rfl
theorem dX7_stepWord_155 : decode cX7_stepWord 155 = .ok (.iload_n 2, 1) := dq_28 (fd_r fcX7_stepWord (by decide +kernel))
theorem dX7_stepWord_156 : decode cX7_stepWord 156 = .ok (.iaload, 1) := dq_46 (fd_r fcX7_stepWord (by decide +kernel))
theorem dX7_stepWord_157 : decode cX7_stepWord 157 = .ok (.aload_n 0, 1) := dq_42 (fd_r fcX7_stepWord (by decide +kernel))
theorem dX7_stepWord_158 : decode cX7_stepWord 158 = .ok (.getfield 90, 3) := dq_180 (a := 0) (b := 90) (fd_r fcX7_stepWord (by decide +kernel)) rfl
theorem dX7_stepWord_161 : decode cX7_stepWord 161 = .ok (.if_icmp .ne 8, 3) := dq_160 (a := 0) (b := 8) (fd_r fcX7_stepWord (by decide +kernel)) rfl
theorem dX7_stepWord_164 : decode cX7_stepWord 164 = .ok (.aload_n 0, 1) := dq_42 (fd_r fcX7_stepWord (by decide +kernel))
theorem dX7_stepWord_165 : decode cX7_stepWord 165 = .ok (.iload_n 2, 1) := dq_28 (fd_r fcX7_stepWord (by decide +kernel))
theorem dX7_stepWord_166 : decode cX7_stepWord 166 = .ok (.putfield 87, 3) := dq_181 (a := 0) (b := 87) (fd_r fcX7_stepWord (by decide +kernel)) rfl
theorem dX7_stepWord_169 : decode cX7_stepWord 169 = .ok (.iinc 2 1, 3) := dq_132 (a := 2) (b := 1) (fd_r fcX7_stepWord (by decide +kernel)) rfl
theorem dX7_stepWord_172 : decode cX7_stepWord 172 = .ok (.goto (-30), 3) := dq_167 (a := 255) (b := 226) (fd_r fcX7_stepWord (by decide +kernel)) rfl
theorem dX7_stepWord_175 : decode cX7_stepWord 175 = .ok (.return_, 1) := dq_177 (fd_r fcX7_stepWord (by decide +kernel))
theorem dX7_stepNumber_0 : decode cX7_stepNumber 0 = .ok (.aload_n 0, 1) := dq_42 (fd_r fcX7_stepNumber (by decide +kernel))
theorem dX7_stepNumber_1 : decode cX7_stepNumber 1 = .ok (.iconst 2, 1) := dq_5 (fd_r fcX7_stepNumber (by decide +kernel))
theorem dX7_stepNumber_2 : decode cX7_stepNumber 2 = .ok (.putfield 75, 3) := dq_181 (a := 0) (b := 75) (fd_r fcX7_stepNumber (by decide +kernel)) rfl
theorem dX7_stepNumber_5 : decode cX7_stepNumber 5 = .ok (.iconst 0, 1) := dq_3 (fd_r fcX7_stepNumber (by decide +kernel))
theorem dX7_stepNumber_6 : decode cX7_stepNumber 6 = .ok (.istore_n 1, 1) := dq_60 (fd_r fcX7_stepNumber (by decide +kernel))
theorem dX7_stepNumber_7 : decode cX7_stepNumber 7 = .ok (.aload_n 0, 1) := dq_42 (fd_r fcX7_stepNumber (by decide +kernel))
theorem dX7_stepNumber_8 : decode cX7_stepNumber 8 = .ok (.getfield 72, 3) := dq_180 (a := 0) (b := 72) (fd_r fcX7_stepNumber (by decide +kernel)) rfl
theorem dX7_stepNumber_11 : decode cX7_stepNumber 11 = .ok (.ifCond .lt 101, 3) := dq_155 (a := 0) (b := 101) (fd_r fcX7_stepNumber (by decide +kernel)) rfl
theorem dX7_stepNumber_14 : decode cX7_stepNumber 14 = .ok (.aload_n 0, 1) := dq_42 (fd_r fcX7_stepNumber (by decide +kernel))
theorem dX7_stepNumber_15 : decode cX7_stepNumber 15 = .ok (.getfield 72, 3) := dq_180 (a := 0) (b := 72) (fd_r fcX7_stepNumber (by decide +kernel)) rfl
theorem dX7_stepNumber_18 : decode cX7_stepNumber 18 = .ok (.aload_n 0, 1) := dq_42 (fd_r fcX7_stepNumber (by decide +kernel))
theorem dX7_stepNumber_19 : decode cX7_stepNumber 19 = .ok (.getfield 71, 3) := dq_180 (a := 0) (b := 71) (fd_r fcX7_stepNumber (by decide +kernel)) rfl
theorem dX7_stepNumber_22 : decode cX7_stepNumber 22 = .ok (.if_icmp .ge 90, 3) := dq_162 (a := 0) (b := 90) (fd_r fcX7_stepNumber (by decide +kernel)) rfl
theorem dX7_stepNumber_25 : decode cX7_stepNumber 25 = .ok (.aload_n 0, 1) := dq_42 (fd_r fcX7_stepNumber (by decide +kernel))
theorem dX7_stepNumber_26 : decode cX7_stepNumber 26 = .ok (.getfield 41, 3) := dq_180 (a := 0) (b := 41) (fd_r fcX7_stepNumber (by decide +kernel)) rfl
theorem dX7_stepNumber_29 : decode cX7_stepNumber 29 = .ok (.aload_n 0, 1) := dq_42 (fd_r fcX7_stepNumber (by decide +kernel))
theorem dX7_stepNumber_30 : decode cX7_stepNumber 30 = .ok (.getfield 72, 3) := dq_180 (a := 0) (b := 72) (fd_r fcX7_stepNumber (by decide +kernel)) rfl
theorem dX7_stepNumber_33 : decode cX7_stepNumber 33 = .ok (.iaload, 1) := dq_46 (fd_r fcX7_stepNumber (by decide +kernel))
theorem dX7_stepNumber_34 : decode cX7_stepNumber 34 = .ok (.bipush 48, 2) := dq_16 (a := 48) (fd_r fcX7_stepNumber (by decide +kernel)) rfl
theorem dX7_stepNumber_36 : decode cX7_stepNumber 36 = .ok (.if_icmp .lt 76, 3) := dq_161 (a := 0) (b := 76) (fd_r fcX7_stepNumber (by decide +kernel)) rfl
theorem dX7_stepNumber_39 : decode cX7_stepNumber 39 = .ok (.aload_n 0, 1) := dq_42 (fd_r fcX7_stepNumber (by decide +kernel))
theorem dX7_stepNumber_40 : decode cX7_stepNumber 40 = .ok (.getfield 41, 3) := dq_180 (a := 0) (b := 41) (fd_r fcX7_stepNumber (by decide +kernel)) rfl
theorem dX7_stepNumber_43 : decode cX7_stepNumber 43 = .ok (.aload_n 0, 1) := dq_42 (fd_r fcX7_stepNumber (by decide +kernel))
theorem dX7_stepNumber_44 : decode cX7_stepNumber 44 = .ok (.getfield 72, 3) := dq_180 (a := 0) (b := 72) (fd_r fcX7_stepNumber (by decide +kernel)) rfl
theorem dX7_stepNumber_47 : decode cX7_stepNumber 47 = .ok (.iaload, 1) := dq_46 (fd_r fcX7_stepNumber (by decide +kernel))
theorem dX7_stepNumber_48 : decode cX7_stepNumber 48 = .ok (.bipush 57, 2) := dq_16 (a := 57) (fd_r fcX7_stepNumber (by decide +kernel)) rfl
theorem dX7_stepNumber_50 : decode cX7_stepNumber 50 = .ok (.if_icmp .gt 62, 3) := dq_163 (a := 0) (b := 62) (fd_r fcX7_stepNumber (by decide +kernel)) rfl
theorem dX7_stepNumber_53 : decode cX7_stepNumber 53 = .ok (.iload_n 1, 1) := dq_27 (fd_r fcX7_stepNumber (by decide +kernel))
theorem dX7_stepNumber_54 : decode cX7_stepNumber 54 = .ok (.iconst 4, 1) := dq_7 (fd_r fcX7_stepNumber (by decide +kernel))
theorem dX7_stepNumber_55 : decode cX7_stepNumber 55 = .ok (.if_icmp .ne 17, 3) := dq_160 (a := 0) (b := 17) (fd_r fcX7_stepNumber (by decide +kernel)) rfl
theorem dX7_stepNumber_58 : decode cX7_stepNumber 58 = .ok (.aload_n 0, 1) := dq_42 (fd_r fcX7_stepNumber (by decide +kernel))
theorem dX7_stepNumber_59 : decode cX7_stepNumber 59 = .ok (.iconst 4, 1) := dq_7 (fd_r fcX7_stepNumber (by decide +kernel))
theorem dX7_stepNumber_60 : decode cX7_stepNumber 60 = .ok (.putfield 75, 3) := dq_181 (a := 0) (b := 75) (fd_r fcX7_stepNumber (by decide +kernel)) rfl
theorem dX7_stepNumber_63 : decode cX7_stepNumber 63 = .ok (.aload_n 0, 1) := dq_42 (fd_r fcX7_stepNumber (by decide +kernel))
theorem dX7_stepNumber_64 : decode cX7_stepNumber 64 = .ok (.aload_n 0, 1) := dq_42 (fd_r fcX7_stepNumber (by decide +kernel))
theorem dX7_stepNumber_65 : decode cX7_stepNumber 65 = .ok (.getfield 72, 3) := dq_180 (a := 0) (b := 72) (fd_r fcX7_stepNumber (by decide +kernel)) rfl
theorem dX7_stepNumber_68 : decode cX7_stepNumber 68 = .ok (.putfield 84, 3) := dq_181 (a := 0) (b := 84) (fd_r fcX7_stepNumber (by decide +kernel)) rfl
theorem dX7_stepNumber_71 : decode cX7_stepNumber 71 = .ok (.return_, 1) := dq_177 (fd_r fcX7_stepNumber (by decide +kernel))
theorem dX7_stepNumber_72 : decode cX7_stepNumber 72 = .ok (.aload_n 0, 1) := dq_42 (fd_r fcX7_stepNumber (by decide +kernel))
theorem dX7_stepNumber_73 : decode cX7_stepNumber 73 = .ok (.aload_n 0, 1) := dq_42 (fd_r fcX7_stepNumber (by decide +kernel))
theorem dX7_stepNumber_74 : decode cX7_stepNumber 74 = .ok (.getfield 90, 3) := dq_180 (a := 0) (b := 90) (fd_r fcX7_stepNumber (by decide +kernel)) rfl
theorem dX7_stepNumber_77 : decode cX7_stepNumber 77 = .ok (.bipush 10, 2) := dq_16 (a := 10) (fd_r fcX7_stepNumber (by decide +kernel)) rfl
theorem dX7_stepNumber_79 : decode cX7_stepNumber 79 = .ok (.imul, 1) := dq_104 (fd_r fcX7_stepNumber (by decide +kernel))
theorem dX7_stepNumber_80 : decode cX7_stepNumber 80 = .ok (.aload_n 0, 1) := dq_42 (fd_r fcX7_stepNumber (by decide +kernel))
theorem dX7_stepNumber_81 : decode cX7_stepNumber 81 = .ok (.getfield 41, 3) := dq_180 (a := 0) (b := 41) (fd_r fcX7_stepNumber (by decide +kernel)) rfl
theorem dX7_stepNumber_84 : decode cX7_stepNumber 84 = .ok (.aload_n 0, 1) := dq_42 (fd_r fcX7_stepNumber (by decide +kernel))
theorem dX7_stepNumber_85 : decode cX7_stepNumber 85 = .ok (.getfield 72, 3) := dq_180 (a := 0) (b := 72) (fd_r fcX7_stepNumber (by decide +kernel)) rfl
theorem dX7_stepNumber_88 : decode cX7_stepNumber 88 = .ok (.iaload, 1) := dq_46 (fd_r fcX7_stepNumber (by decide +kernel))
theorem dX7_stepNumber_89 : decode cX7_stepNumber 89 = .ok (.iadd, 1) := dq_96 (fd_r fcX7_stepNumber (by decide +kernel))
theorem dX7_stepNumber_90 : decode cX7_stepNumber 90 = .ok (.bipush 48, 2) := dq_16 (a := 48) (fd_r fcX7_stepNumber (by decide +kernel)) rfl
theorem dX7_stepNumber_92 : decode cX7_stepNumber 92 = .ok (.isub, 1) := dq_100 (fd_r fcX7_stepNumber (by decide +kernel))
theorem dX7_stepNumber_93 : decode cX7_stepNumber 93 = .ok (.putfield 90, 3) := dq_181 (a := 0) (b := 90) (fd_r fcX7_stepNumber (by decide +kernel)) rfl
theorem dX7_stepNumber_96 : decode cX7_stepNumber 96 = .ok (.iinc 1 1, 3) := dq_132 (a := 1) (b := 1) (fd_r fcX7_stepNumber (by decide +kernel)) rfl
theorem dX7_stepNumber_99 : decode cX7_stepNumber 99 = .ok (.aload_n 0, 1) := dq_42 (fd_r fcX7_stepNumber (by decide +kernel))
theorem dX7_stepNumber_100 : decode cX7_stepNumber 100 = .ok (.dup, 1) := dq_89 (fd_r fcX7_stepNumber (by decide +kernel))
theorem dX7_stepNumber_101 : decode cX7_stepNumber 101 = .ok (.getfield 72, 3) := dq_180 (a := 0) (b := 72) (fd_r fcX7_stepNumber (by decide +kernel)) rfl
theorem dX7_stepNumber_104 : decode cX7_stepNumber 104 = .ok (.iconst 1, 1) := dq_4 (fd_r fcX7_stepNumber (by decide +kernel))
theorem dX7_stepNumber_105 : decode cX7_stepNumber 105 = .ok (.iadd, 1) := dq_96 (fd_r fcX7_stepNumber (by decide +kernel))
theorem dX7_stepNumber_106 : decode cX7_stepNumber 106 = .ok (.putfield 72, 3) := dq_181 (a := 0) (b := 72) (fd_r fcX7_stepNumber (by decide +kernel)) rfl
theorem dX7_stepNumber_109 : decode cX7_stepNumber 109 = .ok (.goto (-102), 3) := dq_167 (a := 255) (b := 154) (fd_r fcX7_stepNumber (by decide +kernel)) rfl
theorem dX7_stepNumber_112 : decode cX7_stepNumber 112 = .ok (.return_, 1) := dq_177 (fd_r fcX7_stepNumber (by decide +kernel))
theorem dX7_isName_0 : decode cX7_isName 0 = .ok (.aload_n 0, 1) := dq_42 (fd_r fcX7_isName (by decide +kernel))
theorem dX7_isName_1 : decode cX7_isName 1 = .ok (.getfield 75, 3) := dq_180 (a := 0) (b := 75) (fd_r fcX7_isName (by decide +kernel)) rfl
theorem dX7_isName_4 : decode cX7_isName 4 = .ok (.iconst 1, 1) := dq_4 (fd_r fcX7_isName (by decide +kernel))
theorem dX7_isName_5 : decode cX7_isName 5 = .ok (.if_icmp .ne 15, 3) := dq_160 (a := 0) (b := 15) (fd_r fcX7_isName (by decide +kernel)) rfl
theorem dX7_isName_8 : decode cX7_isName 8 = .ok (.aload_n 0, 1) := dq_42 (fd_r fcX7_isName (by decide +kernel))
theorem dX7_isName_9 : decode cX7_isName 9 = .ok (.getfield 87, 3) := dq_180 (a := 0) (b := 87) (fd_r fcX7_isName (by decide +kernel)) rfl
theorem dX7_isName_12 : decode cX7_isName 12 = .ok (.iconst (-1), 1) := dq_2 (fd_r fcX7_isName (by decide +kernel))
theorem dX7_isName_13 : decode cX7_isName 13 = .ok (.if_icmp .ne 7, 3) := dq_160 (a := 0) (b := 7) (fd_r fcX7_isName (by decide +kernel)) rfl
theorem dX7_isName_16 : decode cX7_isName 16 = .ok (.iconst 1, 1) := dq_4 (fd_r fcX7_isName (by decide +kernel))
theorem dX7_isName_17 : decode cX7_isName 17 = .ok (.goto 4, 3) := dq_167 (a := 0) (b := 4) (fd_r fcX7_isName (by decide +kernel)) rfl
theorem dX7_isName_20 : decode cX7_isName 20 = .ok (.iconst 0, 1) := dq_3 (fd_r fcX7_isName (by decide +kernel))
theorem dX7_isName_21 : decode cX7_isName 21 = .ok (.ireturn, 1) := dq_172 (fd_r fcX7_isName (by decide +kernel))
theorem dX7_isSign_0 : decode cX7_isSign 0 = .ok (.aload_n 0, 1) := dq_42 (fd_r fcX7_isSign (by decide +kernel))
theorem dX7_isSign_1 : decode cX7_isSign 1 = .ok (.getfield 75, 3) := dq_180 (a := 0) (b := 75) (fd_r fcX7_isSign (by decide +kernel)) rfl
theorem dX7_isSign_4 : decode cX7_isSign 4 = .ok (.iconst 3, 1) := dq_6 (fd_r fcX7_isSign (by decide +kernel))
theorem dX7_isSign_5 : decode cX7_isSign 5 = .ok (.if_icmp .ne 15, 3) := dq_160 (a := 0) (b := 15) (fd_r fcX7_isSign (by decide +kernel)) rfl
theorem dX7_isSign_8 : decode cX7_isSign 8 = .ok (.aload_n 0, 1) := dq_42 (fd_r fcX7_isSign (by decide +kernel))
theorem dX7_isSign_9 : decode cX7_isSign 9 = .ok (.getfield 90, 3) := dq_180 (a := 0) (b := 90) (fd_r fcX7_isSign (by decide +kernel)) rfl
theorem dX7_isSign_12 : decode cX7_isSign 12 = .ok (.iload_n 1, 1) := dq_27 (fd_r fcX7_isSign (by decide +kernel))
theorem dX7_isSign_13 : decode cX7_isSign 13 = .ok (.if_icmp .ne 7, 3) := dq_160 (a := 0) (b := 7) (fd_r fcX7_isSign (by decide +kernel)) rfl
theorem dX7_isSign_16 : decode cX7_isSign 16 = .ok (.iconst 1, 1) := dq_4 (fd_r fcX7_isSign (by decide +kernel))
theorem dX7_isSign_17 : decode cX7_isSign 17 = .ok (.goto 4, 3) := dq_167 (a := 0) (b := 4) (fd_r fcX7_isSign (by decide +kernel)) rfl
theorem dX7_isSign_20 : decode cX7_isSign 20 = .ok (.iconst 0, 1) := dq_3 (fd_r fcX7_isSign (by decide +kernel))
theorem dX7_isSign_21 : decode cX7_isSign 21 = .ok (.ireturn, 1) := dq_172 (fd_r fcX7_isSign (by decide +kernel))
theorem dX8_init_0 : decode cX8_init 0 = .ok (.aload_n 0, 1) := dq_42 (fd_r fcX8_init (by decide +kernel))
theorem dX8_init_1 : decode cX8_init 1 = .ok (.invokespecial 3, 3) := dq_183 (a := 0) (b := 3) (fd_r fcX8_init (by decide +kernel)) rfl
theorem dX8_init_4 : decode cX8_init 4 = .ok (.aload_n 0, 1) := dq_42 (fd_r fcX8_init (by decide +kernel))
theorem dX8_init_5 : decode cX8_init 5 = .ok (.bipush 16, 2) := dq_16 (a := 16) (fd_r fcX8_init (by decide +kernel)) rfl
theorem dX8_init_7 : decode cX8_init 7 = .ok (.newarray .int, 2) := by decide +kernel
theorem dX8_init_9 : decode cX8_init 9 = .ok (.putfield 9, 3) := dq_181 (a := 0) (b := 9) (fd_r fcX8_init (by decide +kernel)) rfl
theorem dX8_init_12 : decode cX8_init 12 = .ok (.aload_n 0, 1) := dq_42 (fd_r fcX8_init (by decide +kernel))
theorem dX8_init_13 : decode cX8_init 13 = .ok (.bipush 16, 2) := dq_16 (a := 16) (fd_r fcX8_init (by decide +kernel)) rfl
theorem dX8_init_15 : decode cX8_init 15 = .ok (.newarray .int, 2) := by decide +kernel
theorem dX8_init_17 : decode cX8_init 17 = .ok (.putfield 15, 3) := dq_181 (a := 0) (b := 15) (fd_r fcX8_init (by decide +kernel)) rfl
theorem dX8_init_20 : decode cX8_init 20 = .ok (.aload_n 0, 1) := dq_42 (fd_r fcX8_init (by decide +kernel))
theorem dX8_init_21 : decode cX8_init 21 = .ok (.sipush 256, 3) := dq_17 (a := 1) (b := 0) (fd_r fcX8_init (by decide +kernel)) rfl
theorem dX8_init_24 : decode cX8_init 24 = .ok (.newarray .int, 2) := by decide +kernel
theorem dX8_init_26 : decode cX8_init 26 = .ok (.putfield 18, 3) := dq_181 (a := 0) (b := 18) (fd_r fcX8_init (by decide +kernel)) rfl
theorem dX8_init_29 : decode cX8_init 29 = .ok (.aload_n 0, 1) := dq_42 (fd_r fcX8_init (by decide +kernel))
theorem dX8_init_30 : decode cX8_init 30 = .ok (.bipush 13, 2) := dq_16 (a := 13) (fd_r fcX8_init (by decide +kernel)) rfl
theorem dX8_init_32 : decode cX8_init 32 = .ok (.newarray .int, 2) := by decide +kernel
theorem dX8_init_34 : decode cX8_init 34 = .ok (.putfield 21, 3) := dq_181 (a := 0) (b := 21) (fd_r fcX8_init (by decide +kernel)) rfl
theorem dX8_init_37 : decode cX8_init 37 = .ok (.return_, 1) := dq_177 (fd_r fcX8_init (by decide +kernel))
theorem dX8_read_0 : decode cX8_read 0 = .ok (.aload_n 1, 1) := dq_43 (fd_r fcX8_read (by decide +kernel))
theorem dX8_read_1 : decode cX8_read 1 = .ok (.getfield 24, 3) := dq_180 (a := 0) (b := 24) (fd_r fcX8_read (by decide +kernel)) rfl
theorem dX8_read_4 : decode cX8_read 4 = .ok (.iconst 3, 1) := dq_6 (fd_r fcX8_read (by decide +kernel))
theorem dX8_read_5 : decode cX8_read 5 = .ok (.idiv, 1) := dq_108 (fd_r fcX8_read (by decide +kernel))
theorem dX8_read_6 : decode cX8_read 6 = .ok (.istore 4, 2) := dq_54 (a := 4) (fd_r fcX8_read (by decide +kernel))
theorem dX8_read_8 : decode cX8_read 8 = .ok (.iload 4, 2) := dq_21 (a := 4) (fd_r fcX8_read (by decide +kernel))
theorem dX8_read_10 : decode cX8_read 10 = .ok (.iconst 1, 1) := dq_4 (fd_r fcX8_read (by decide +kernel))
theorem dX8_read_11 : decode cX8_read 11 = .ok (.if_icmp .lt 21, 3) := dq_161 (a := 0) (b := 21) (fd_r fcX8_read (by decide +kernel)) rfl
theorem dX8_read_14 : decode cX8_read 14 = .ok (.iload 4, 2) := dq_21 (a := 4) (fd_r fcX8_read (by decide +kernel))
theorem dX8_read_16 : decode cX8_read 16 = .ok (.bipush 16, 2) := dq_16 (a := 16) (fd_r fcX8_read (by decide +kernel)) rfl
theorem dX8_read_18 : decode cX8_read 18 = .ok (.if_icmp .gt 14, 3) := dq_163 (a := 0) (b := 14) (fd_r fcX8_read (by decide +kernel)) rfl
theorem dX8_read_21 : decode cX8_read 21 = .ok (.aload_n 1, 1) := dq_43 (fd_r fcX8_read (by decide +kernel))
theorem dX8_read_22 : decode cX8_read 22 = .ok (.getfield 24, 3) := dq_180 (a := 0) (b := 24) (fd_r fcX8_read (by decide +kernel)) rfl
theorem dX8_read_25 : decode cX8_read 25 = .ok (.iconst 3, 1) := dq_6 (fd_r fcX8_read (by decide +kernel))
theorem dX8_read_26 : decode cX8_read 26 = .ok (.iload 4, 2) := dq_21 (a := 4) (fd_r fcX8_read (by decide +kernel))
theorem dX8_read_28 : decode cX8_read 28 = .ok (.imul, 1) := dq_104 (fd_r fcX8_read (by decide +kernel))
theorem dX8_read_29 : decode cX8_read 29 = .ok (.if_icmp .eq 5, 3) := dq_159 (a := 0) (b := 5) (fd_r fcX8_read (by decide +kernel)) rfl
theorem dX8_read_32 : decode cX8_read 32 = .ok (.iconst 0, 1) := dq_3 (fd_r fcX8_read (by decide +kernel))
theorem dX8_read_33 : decode cX8_read 33 = .ok (.ireturn, 1) := dq_172 (fd_r fcX8_read (by decide +kernel))
theorem dX8_read_34 : decode cX8_read 34 = .ok (.iconst 0, 1) := dq_3 (fd_r fcX8_read (by decide +kernel))
theorem dX8_read_35 : decode cX8_read 35 = .ok (.istore 5, 2) := dq_54 (a := 5) (fd_r fcX8_read (by decide +kernel))
theorem dX8_read_37 : decode cX8_read 37 = .ok (.iload 5, 2) := dq_21 (a := 5) (fd_r fcX8_read (by decide +kernel))
theorem dX8_read_39 : decode cX8_read 39 = .ok (.iload 4, 2) := dq_21 (a := 4) (fd_r fcX8_read (by decide +kernel))
theorem dX8_read_41 : decode cX8_read 41 = .ok (.if_icmp .ge 53, 3) := dq_162 (a := 0) (b := 53) (fd_r fcX8_read (by decide +kernel)) rfl
theorem dX8_read_44 : decode cX8_read 44 = .ok (.aload_n 1, 1) := dq_43 (fd_r fcX8_read (by decide +kernel))
theorem dX8_read_45 : decode cX8_read 45 = .ok (.iconst 3, 1) := dq_6 (fd_r fcX8_read (by decide +kernel))
theorem dX8_read_46 : decode cX8_read 46 = .ok (.iload 5, 2) := dq_21 (a := 5) (fd_r fcX8_read (by decide +kernel))
theorem dX8_read_48 : decode cX8_read 48 = .ok (.imul, 1) := dq_104 (fd_r fcX8_read (by decide +kernel))
theorem dX8_read_49 : decode cX8_read 49 = .ok (.iconst 2, 1) := dq_5 (fd_r fcX8_read (by decide +kernel))
theorem dX8_read_50 : decode cX8_read 50 = .ok (.iadd, 1) := dq_96 (fd_r fcX8_read (by decide +kernel))
theorem dX8_read_51 : decode cX8_read 51 = .ok (.invokevirtual 30, 3) := dq_182 (a := 0) (b := 30) (fd_r fcX8_read (by decide +kernel)) rfl
theorem dX8_read_54 : decode cX8_read 54 = .ok (.istore 6, 2) := dq_54 (a := 6) (fd_r fcX8_read (by decide +kernel))
theorem dX8_read_56 : decode cX8_read 56 = .ok (.aload_n 2, 1) := dq_44 (fd_r fcX8_read (by decide +kernel))
theorem dX8_read_57 : decode cX8_read 57 = .ok (.aload_n 1, 1) := dq_43 (fd_r fcX8_read (by decide +kernel))
theorem dX8_read_58 : decode cX8_read 58 = .ok (.iload 5, 2) := dq_21 (a := 5) (fd_r fcX8_read (by decide +kernel))
theorem dX8_read_60 : decode cX8_read 60 = .ok (.invokestatic 34, 3) := dq_184 (a := 0) (b := 34) (fd_r fcX8_read (by decide +kernel)) rfl
theorem dX8_read_63 : decode cX8_read 63 = .ok (.invokevirtual 38, 3) := dq_182 (a := 0) (b := 38) (fd_r fcX8_read (by decide +kernel)) rfl
theorem dX8_read_66 : decode cX8_read 66 = .ok (.ifCond .eq 20, 3) := dq_153 (a := 0) (b := 20) (fd_r fcX8_read (by decide +kernel)) rfl
theorem dX8_read_69 : decode cX8_read 69 = .ok (.iload 6, 2) := dq_21 (a := 6) (fd_r fcX8_read (by decide +kernel))
theorem dX8_read_71 : decode cX8_read 71 = .ok (.sipush 255, 3) := dq_17 (a := 0) (b := 255) (fd_r fcX8_read (by decide +kernel)) rfl
theorem dX8_read_74 : decode cX8_read 74 = .ok (.if_icmp .eq 14, 3) := dq_159 (a := 0) (b := 14) (fd_r fcX8_read (by decide +kernel)) rfl
theorem dX8_read_77 : decode cX8_read 77 = .ok (.aload_n 3, 1) := dq_45 (fd_r fcX8_read (by decide +kernel))
theorem dX8_read_78 : decode cX8_read 78 = .ok (.iload 6, 2) := dq_21 (a := 6) (fd_r fcX8_read (by decide +kernel))
theorem dX8_read_80 : decode cX8_read 80 = .ok (.invokevirtual 44, 3) := dq_182 (a := 0) (b := 44) (fd_r fcX8_read (by decide +kernel)) rfl
theorem dX8_read_83 : decode cX8_read 83 = .ok (.ifCond .ne 5, 3) := dq_154 (a := 0) (b := 5) (fd_r fcX8_read (by decide +kernel)) rfl
theorem dX8_read_86 : decode cX8_read 86 = .ok (.iconst 0, 1) := dq_3 (fd_r fcX8_read (by decide +kernel))
theorem dX8_read_87 : decode cX8_read 87 = .ok (.ireturn, 1) := dq_172 (fd_r fcX8_read (by decide +kernel))
theorem dX8_read_88 : decode cX8_read 88 = .ok (.iinc 5 1, 3) := dq_132 (a := 5) (b := 1) (fd_r fcX8_read (by decide +kernel)) rfl
theorem dX8_read_91 : decode cX8_read 91 = .ok (.goto (-54), 3) := dq_167 (a := 255) (b := 202) (fd_r fcX8_read (by decide +kernel)) rfl
theorem dX8_read_94 : decode cX8_read 94 = .ok (.aload_n 0, 1) := dq_42 (fd_r fcX8_read (by decide +kernel))
theorem dX8_read_95 : decode cX8_read 95 = .ok (.iload 4, 2) := dq_21 (a := 4) (fd_r fcX8_read (by decide +kernel))
theorem dX8_read_97 : decode cX8_read 97 = .ok (.putfield 49, 3) := dq_181 (a := 0) (b := 49) (fd_r fcX8_read (by decide +kernel)) rfl
theorem dX8_read_100 : decode cX8_read 100 = .ok (.iconst 0, 1) := dq_3 (fd_r fcX8_read (by decide +kernel))
theorem dX8_read_101 : decode cX8_read 101 = .ok (.istore 5, 2) := dq_54 (a := 5) (fd_r fcX8_read (by decide +kernel))
theorem dX8_read_103 : decode cX8_read 103 = .ok (.iload 5, 2) := dq_21 (a := 5) (fd_r fcX8_read (by decide +kernel))
theorem dX8_read_105 : decode cX8_read 105 = .ok (.iload 4, 2) := dq_21 (a := 4) (fd_r fcX8_read (by decide +kernel))
theorem dX8_read_107 : decode cX8_read 107 = .ok (.if_icmp .ge 43, 3) := dq_162 (a := 0) (b := 43) (fd_r fcX8_read (by decide +kernel)) rfl
theorem dX8_read_110 : decode cX8_read 110 = .ok (.aload_n 0, 1) := dq_42 (fd_r fcX8_read (by decide +kernel))
theorem dX8_read_111 : decode cX8_read 111 = .ok (.getfield 9, 3) := dq_180 (a := 0) (b := 9) (fd_r fcX8_read (by decide +kernel)) rfl
theorem dX8_read_114 : decode cX8_read 114 = .ok (.iload 5, 2) := dq_21 (a := 5) (fd_r fcX8_read (by decide +kernel))
theorem dX8_read_116 : decode cX8_read 116 = .ok (.aload_n 1, 1) := dq_43 (fd_r fcX8_read (by decide +kernel))
theorem dX8_read_117 : decode cX8_read 117 = .ok (.iload 5, 2) := dq_21 (a := 5) (fd_r fcX8_read (by decide +kernel))
theorem dX8_read_119 : decode cX8_read 119 = .ok (.invokestatic 34, 3) := dq_184 (a := 0) (b := 34) (fd_r fcX8_read (by decide +kernel)) rfl
theorem dX8_read_122 : decode cX8_read 122 = .ok (.iastore, 1) := dq_79 (fd_r fcX8_read (by decide +kernel))
theorem dX8_read_123 : decode cX8_read 123 = .ok (.aload_n 0, 1) := dq_42 (fd_r fcX8_read (by decide +kernel))
theorem dX8_read_124 : decode cX8_read 124 = .ok (.getfield 15, 3) := dq_180 (a := 0) (b := 15) (fd_r fcX8_read (by decide +kernel)) rfl
theorem dX8_read_127 : decode cX8_read 127 = .ok (.iload 5, 2) := dq_21 (a := 5) (fd_r fcX8_read (by decide +kernel))
theorem dX8_read_129 : decode cX8_read 129 = .ok (.aload_n 3, 1) := dq_45 (fd_r fcX8_read (by decide +kernel))
theorem dX8_read_130 : decode cX8_read 130 = .ok (.aload_n 1, 1) := dq_43 (fd_r fcX8_read (by decide +kernel))
theorem dX8_read_131 : decode cX8_read 131 = .ok (.iconst 3, 1) := dq_6 (fd_r fcX8_read (by decide +kernel))
theorem dX8_read_132 : decode cX8_read 132 = .ok (.iload 5, 2) := dq_21 (a := 5) (fd_r fcX8_read (by decide +kernel))
theorem dX8_read_134 : decode cX8_read 134 = .ok (.imul, 1) := dq_104 (fd_r fcX8_read (by decide +kernel))
theorem dX8_read_135 : decode cX8_read 135 = .ok (.iconst 2, 1) := dq_5 (fd_r fcX8_read (by decide +kernel))
theorem dX8_read_136 : decode cX8_read 136 = .ok (.iadd, 1) := dq_96 (fd_r fcX8_read (by decide +kernel))
theorem dX8_read_137 : decode cX8_read 137 = .ok (.invokevirtual 30, 3) := dq_182 (a := 0) (b := 30) (fd_r fcX8_read (by decide +kernel)) rfl
theorem dX8_read_140 : decode cX8_read 140 = .ok (.invokevirtual 52, 3) := dq_182 (a := 0) (b := 52) (fd_r fcX8_read (by decide +kernel)) rfl
theorem dX8_read_143 : decode cX8_read 143 = .ok (.iastore, 1) := dq_79 (fd_r fcX8_read (by decide +kernel))
theorem dX8_read_144 : decode cX8_read 144 = .ok (.iinc 5 1, 3) := dq_132 (a := 5) (b := 1) (fd_r fcX8_read (by decide +kernel)) rfl
theorem dX8_read_147 : decode cX8_read 147 = .ok (.goto (-44), 3) := dq_167 (a := 255) (b := 212) (fd_r fcX8_read (by decide +kernel)) rfl
theorem dX8_read_150 : decode cX8_read 150 = .ok (.iconst 1, 1) := dq_4 (fd_r fcX8_read (by decide +kernel))
theorem dX8_read_151 : decode cX8_read 151 = .ok (.ireturn, 1) := dq_172 (fd_r fcX8_read (by decide +kernel))
theorem dX8_rowOn_0 : decode cX8_rowOn 0 = .ok (.aload_n 0, 1) := dq_42 (fd_r fcX8_rowOn (by decide +kernel))
theorem dX8_rowOn_1 : decode cX8_rowOn 1 = .ok (.iconst 3, 1) := dq_6 (fd_r fcX8_rowOn (by decide +kernel))
theorem dX8_rowOn_2 : decode cX8_rowOn 2 = .ok (.iload_n 1, 1) := dq_27 (fd_r fcX8_rowOn (by decide +kernel))
theorem dX8_rowOn_3 : decode cX8_rowOn 3 = .ok (.imul, 1) := dq_104 (fd_r fcX8_rowOn (by decide +kernel))
theorem dX8_rowOn_4 : decode cX8_rowOn 4 = .ok (.invokevirtual 30, 3) := dq_182 (a := 0) (b := 30) (fd_r fcX8_rowOn (by decide +kernel)) rfl
theorem dX8_rowOn_7 : decode cX8_rowOn 7 = .ok (.sipush 256, 3) := dq_17 (a := 1) (b := 0) (fd_r fcX8_rowOn (by decide +kernel)) rfl
theorem dX8_rowOn_10 : decode cX8_rowOn 10 = .ok (.imul, 1) := dq_104 (fd_r fcX8_rowOn (by decide +kernel))
theorem dX8_rowOn_11 : decode cX8_rowOn 11 = .ok (.aload_n 0, 1) := dq_42 (fd_r fcX8_rowOn (by decide +kernel))
theorem dX8_rowOn_12 : decode cX8_rowOn 12 = .ok (.iconst 3, 1) := dq_6 (fd_r fcX8_rowOn (by decide +kernel))
theorem dX8_rowOn_13 : decode cX8_rowOn 13 = .ok (.iload_n 1, 1) := dq_27 (fd_r fcX8_rowOn (by decide +kernel))
theorem dX8_rowOn_14 : decode cX8_rowOn 14 = .ok (.imul, 1) := dq_104 (fd_r fcX8_rowOn (by decide +kernel))
theorem dX8_rowOn_15 : decode cX8_rowOn 15 = .ok (.iconst 1, 1) := dq_4 (fd_r fcX8_rowOn (by decide +kernel))
theorem dX8_rowOn_16 : decode cX8_rowOn 16 = .ok (.iadd, 1) := dq_96 (fd_r fcX8_rowOn (by decide +kernel))
theorem dX8_rowOn_17 : decode cX8_rowOn 17 = .ok (.invokevirtual 30, 3) := dq_182 (a := 0) (b := 30) (fd_r fcX8_rowOn (by decide +kernel)) rfl
theorem dX8_rowOn_20 : decode cX8_rowOn 20 = .ok (.iadd, 1) := dq_96 (fd_r fcX8_rowOn (by decide +kernel))
theorem dX8_rowOn_21 : decode cX8_rowOn 21 = .ok (.ireturn, 1) := dq_172 (fd_r fcX8_rowOn (by decide +kernel))
theorem dX8_findSets_0 : decode cX8_findSets 0 = .ok (.aload_n 0, 1) := dq_42 (fd_r fcX8_findSets (by decide +kernel))
theorem dX8_findSets_1 : decode cX8_findSets 1 = .ok (.iconst 0, 1) := dq_3 (fd_r fcX8_findSets (by decide +kernel))
theorem dX8_findSets_2 : decode cX8_findSets 2 = .ok (.putfield 55, 3) := dq_181 (a := 0) (b := 55) (fd_r fcX8_findSets (by decide +kernel)) rfl
theorem dX8_findSets_5 : decode cX8_findSets 5 = .ok (.iconst 0, 1) := dq_3 (fd_r fcX8_findSets (by decide +kernel))
theorem dX8_findSets_6 : decode cX8_findSets 6 = .ok (.istore_n 3, 1) := dq_62 (fd_r fcX8_findSets (by decide +kernel))
theorem dX8_findSets_7 : decode cX8_findSets 7 = .ok (.iload_n 3, 1) := dq_29 (fd_r fcX8_findSets (by decide +kernel))
theorem dX8_findSets_8 : decode cX8_findSets 8 = .ok (.sipush 256, 3) := dq_17 (a := 1) (b := 0) (fd_r fcX8_findSets (by decide +kernel)) rfl
theorem dX8_findSets_11 : decode cX8_findSets 11 = .ok (.if_icmp .ge 39, 3) := dq_162 (a := 0) (b := 39) (fd_r fcX8_findSets (by decide +kernel)) rfl
theorem dX8_findSets_14 : decode cX8_findSets 14 = .ok (.aload_n 0, 1) := dq_42 (fd_r fcX8_findSets (by decide +kernel))
theorem dX8_findSets_15 : decode cX8_findSets 15 = .ok (.aload_n 1, 1) := dq_43 (fd_r fcX8_findSets (by decide +kernel))
theorem dX8_findSets_16 : decode cX8_findSets 16 = .ok (.aload_n 2, 1) := dq_44 (fd_r fcX8_findSets (by decide +kernel))
theorem dX8_findSets_17 : decode cX8_findSets 17 = .ok (.iload_n 3, 1) := dq_29 (fd_r fcX8_findSets (by decide +kernel))
theorem dX8_findSets_18 : decode cX8_findSets 18 = .ok (.invokevirtual 58, 3) := dq_182 (a := 0) (b := 58) (fd_r fcX8_findSets (by decide +kernel)) rfl
theorem dX8_findSets_21 : decode cX8_findSets 21 = .ok (.ifCond .eq 23, 3) := dq_153 (a := 0) (b := 23) (fd_r fcX8_findSets (by decide +kernel)) rfl
theorem dX8_findSets_24 : decode cX8_findSets 24 = .ok (.aload_n 0, 1) := dq_42 (fd_r fcX8_findSets (by decide +kernel))
theorem dX8_findSets_25 : decode cX8_findSets 25 = .ok (.getfield 18, 3) := dq_180 (a := 0) (b := 18) (fd_r fcX8_findSets (by decide +kernel)) rfl
theorem dX8_findSets_28 : decode cX8_findSets 28 = .ok (.aload_n 0, 1) := dq_42 (fd_r fcX8_findSets (by decide +kernel))
theorem dX8_findSets_29 : decode cX8_findSets 29 = .ok (.getfield 55, 3) := dq_180 (a := 0) (b := 55) (fd_r fcX8_findSets (by decide +kernel)) rfl
theorem dX8_findSets_32 : decode cX8_findSets 32 = .ok (.iload_n 3, 1) := dq_29 (fd_r fcX8_findSets (by decide +kernel))
theorem dX8_findSets_33 : decode cX8_findSets 33 = .ok (.iastore, 1) := dq_79 (fd_r fcX8_findSets (by decide +kernel))
theorem dX8_findSets_34 : decode cX8_findSets 34 = .ok (.aload_n 0, 1) := dq_42 (fd_r fcX8_findSets (by decide +kernel))
theorem dX8_findSets_35 : decode cX8_findSets 35 = .ok (.dup, 1) := dq_89 (fd_r fcX8_findSets (by decide +kernel))
theorem dX8_findSets_36 : decode cX8_findSets 36 = .ok (.getfield 55, 3) := dq_180 (a := 0) (b := 55) (fd_r fcX8_findSets (by decide +kernel)) rfl
theorem dX8_findSets_39 : decode cX8_findSets 39 = .ok (.iconst 1, 1) := dq_4 (fd_r fcX8_findSets (by decide +kernel))
theorem dX8_findSets_40 : decode cX8_findSets 40 = .ok (.iadd, 1) := dq_96 (fd_r fcX8_findSets (by decide +kernel))
theorem dX8_findSets_41 : decode cX8_findSets 41 = .ok (.putfield 55, 3) := dq_181 (a := 0) (b := 55) (fd_r fcX8_findSets (by decide +kernel)) rfl
theorem dX8_findSets_44 : decode cX8_findSets 44 = .ok (.iinc 3 1, 3) := dq_132 (a := 3) (b := 1) (fd_r fcX8_findSets (by decide +kernel)) rfl
theorem dX8_findSets_47 : decode cX8_findSets 47 = .ok (.goto (-40), 3) := dq_167 (a := 255) (b := 216) (fd_r fcX8_findSets (by decide +kernel)) rfl
theorem dX8_findSets_50 : decode cX8_findSets 50 = .ok (.return_, 1) := dq_177 (fd_r fcX8_findSets (by decide +kernel))
theorem dX8_agrees_0 : decode cX8_agrees 0 = .ok (.iconst 0, 1) := dq_3 (fd_r fcX8_agrees (by decide +kernel))
theorem dX8_agrees_1 : decode cX8_agrees 1 = .ok (.istore 4, 2) := dq_54 (a := 4) (fd_r fcX8_agrees (by decide +kernel))
theorem dX8_agrees_3 : decode cX8_agrees 3 = .ok (.iload 4, 2) := dq_21 (a := 4) (fd_r fcX8_agrees (by decide +kernel))
theorem dX8_agrees_5 : decode cX8_agrees 5 = .ok (.aload_n 0, 1) := dq_42 (fd_r fcX8_agrees (by decide +kernel))
theorem dX8_agrees_6 : decode cX8_agrees 6 = .ok (.getfield 49, 3) := dq_180 (a := 0) (b := 49) (fd_r fcX8_agrees (by decide +kernel)) rfl
theorem dX8_agrees_9 : decode cX8_agrees 9 = .ok (.if_icmp .ge 46, 3) := dq_162 (a := 0) (b := 46) (fd_r fcX8_agrees (by decide +kernel)) rfl
theorem dX8_agrees_12 : decode cX8_agrees 12 = .ok (.aload_n 2, 1) := dq_44 (fd_r fcX8_agrees (by decide +kernel))
theorem dX8_agrees_13 : decode cX8_agrees 13 = .ok (.aload_n 1, 1) := dq_43 (fd_r fcX8_agrees (by decide +kernel))
theorem dX8_agrees_14 : decode cX8_agrees 14 = .ok (.aload_n 1, 1) := dq_43 (fd_r fcX8_agrees (by decide +kernel))
theorem dX8_agrees_15 : decode cX8_agrees 15 = .ok (.aload_n 0, 1) := dq_42 (fd_r fcX8_agrees (by decide +kernel))
theorem dX8_agrees_16 : decode cX8_agrees 16 = .ok (.getfield 9, 3) := dq_180 (a := 0) (b := 9) (fd_r fcX8_agrees (by decide +kernel)) rfl
theorem dX8_agrees_19 : decode cX8_agrees 19 = .ok (.iload 4, 2) := dq_21 (a := 4) (fd_r fcX8_agrees (by decide +kernel))
theorem dX8_agrees_21 : decode cX8_agrees 21 = .ok (.iaload, 1) := dq_46 (fd_r fcX8_agrees (by decide +kernel))
theorem dX8_agrees_22 : decode cX8_agrees 22 = .ok (.invokevirtual 62, 3) := dq_182 (a := 0) (b := 62) (fd_r fcX8_agrees (by decide +kernel)) rfl
theorem dX8_agrees_25 : decode cX8_agrees 25 = .ok (.iload_n 3, 1) := dq_29 (fd_r fcX8_agrees (by decide +kernel))
theorem dX8_agrees_26 : decode cX8_agrees 26 = .ok (.invokevirtual 65, 3) := dq_182 (a := 0) (b := 65) (fd_r fcX8_agrees (by decide +kernel)) rfl
theorem dX8_agrees_29 : decode cX8_agrees 29 = .ok (.istore 5, 2) := dq_54 (a := 5) (fd_r fcX8_agrees (by decide +kernel))
theorem dX8_agrees_31 : decode cX8_agrees 31 = .ok (.aload_n 2, 1) := dq_44 (fd_r fcX8_agrees (by decide +kernel))
theorem dX8_agrees_32 : decode cX8_agrees 32 = .ok (.iload 5, 2) := dq_21 (a := 5) (fd_r fcX8_agrees (by decide +kernel))
theorem dX8_agrees_34 : decode cX8_agrees 34 = .ok (.invokevirtual 52, 3) := dq_182 (a := 0) (b := 52) (fd_r fcX8_agrees (by decide +kernel)) rfl
theorem dX8_agrees_37 : decode cX8_agrees 37 = .ok (.aload_n 0, 1) := dq_42 (fd_r fcX8_agrees (by decide +kernel))
theorem dX8_agrees_38 : decode cX8_agrees 38 = .ok (.getfield 15, 3) := dq_180 (a := 0) (b := 15) (fd_r fcX8_agrees (by decide +kernel)) rfl
theorem dX8_agrees_41 : decode cX8_agrees 41 = .ok (.iload 4, 2) := dq_21 (a := 4) (fd_r fcX8_agrees (by decide +kernel))
theorem dX8_agrees_43 : decode cX8_agrees 43 = .ok (.iaload, 1) := dq_46 (fd_r fcX8_agrees (by decide +kernel))
theorem dX8_agrees_44 : decode cX8_agrees 44 = .ok (.if_icmp .eq 5, 3) := dq_159 (a := 0) (b := 5) (fd_r fcX8_agrees (by decide +kernel)) rfl
theorem dX8_agrees_47 : decode cX8_agrees 47 = .ok (.iconst 0, 1) := dq_3 (fd_r fcX8_agrees (by decide +kernel))
theorem dX8_agrees_48 : decode cX8_agrees 48 = .ok (.ireturn, 1) := dq_172 (fd_r fcX8_agrees (by decide +kernel))
theorem dX8_agrees_49 : decode cX8_agrees 49 = .ok (.iinc 4 1, 3) := dq_132 (a := 4) (b := 1) (fd_r fcX8_agrees (by decide +kernel)) rfl
theorem dX8_agrees_52 : decode cX8_agrees 52 = .ok (.goto (-49), 3) := dq_167 (a := 255) (b := 207) (fd_r fcX8_agrees (by decide +kernel)) rfl
theorem dX8_agrees_55 : decode cX8_agrees 55 = .ok (.iconst 1, 1) := dq_4 (fd_r fcX8_agrees (by decide +kernel))
theorem dX8_agrees_56 : decode cX8_agrees 56 = .ok (.ireturn, 1) := dq_172 (fd_r fcX8_agrees (by decide +kernel))
theorem dX8_mostLeft_0 : decode cX8_mostLeft 0 = .ok (.iconst 0, 1) := dq_3 (fd_r fcX8_mostLeft (by decide +kernel))
theorem dX8_mostLeft_1 : decode cX8_mostLeft 1 = .ok (.istore 4, 2) := dq_54 (a := 4) (fd_r fcX8_mostLeft (by decide +kernel))
theorem dX8_mostLeft_3 : decode cX8_mostLeft 3 = .ok (.iload 4, 2) := dq_21 (a := 4) (fd_r fcX8_mostLeft (by decide +kernel))
theorem dX8_mostLeft_5 : decode cX8_mostLeft 5 = .ok (.bipush 12, 2) := dq_16 (a := 12) (fd_r fcX8_mostLeft (by decide +kernel)) rfl
theorem dX8_mostLeft_7 : decode cX8_mostLeft 7 = .ok (.if_icmp .gt 17, 3) := dq_163 (a := 0) (b := 17) (fd_r fcX8_mostLeft (by decide +kernel)) rfl
theorem dX8_mostLeft_10 : decode cX8_mostLeft 10 = .ok (.aload_n 0, 1) := dq_42 (fd_r fcX8_mostLeft (by decide +kernel))
theorem dX8_mostLeft_11 : decode cX8_mostLeft 11 = .ok (.getfield 21, 3) := dq_180 (a := 0) (b := 21) (fd_r fcX8_mostLeft (by decide +kernel)) rfl
theorem dX8_mostLeft_14 : decode cX8_mostLeft 14 = .ok (.iload 4, 2) := dq_21 (a := 4) (fd_r fcX8_mostLeft (by decide +kernel))
theorem dX8_mostLeft_16 : decode cX8_mostLeft 16 = .ok (.iconst 0, 1) := dq_3 (fd_r fcX8_mostLeft (by decide +kernel))
theorem dX8_mostLeft_17 : decode cX8_mostLeft 17 = .ok (.iastore, 1) := dq_79 (fd_r fcX8_mostLeft (by decide +kernel))
theorem dX8_mostLeft_18 : decode cX8_mostLeft 18 = .ok (.iinc 4 1, 3) := dq_132 (a := 4) (b := 1) (fd_r fcX8_mostLeft (by decide +kernel)) rfl
theorem dX8_mostLeft_21 : decode cX8_mostLeft 21 = .ok (.goto (-18), 3) := dq_167 (a := 255) (b := 238) (fd_r fcX8_mostLeft (by decide +kernel)) rfl
theorem dX8_mostLeft_24 : decode cX8_mostLeft 24 = .ok (.iconst 0, 1) := dq_3 (fd_r fcX8_mostLeft (by decide +kernel))
theorem dX8_mostLeft_25 : decode cX8_mostLeft 25 = .ok (.istore 4, 2) := dq_54 (a := 4) (fd_r fcX8_mostLeft (by decide +kernel))
theorem dX8_mostLeft_27 : decode cX8_mostLeft 27 = .ok (.iconst 0, 1) := dq_3 (fd_r fcX8_mostLeft (by decide +kernel))
theorem dX8_mostLeft_28 : decode cX8_mostLeft 28 = .ok (.istore 5, 2) := dq_54 (a := 5) (fd_r fcX8_mostLeft (by decide +kernel))
theorem dX8_mostLeft_30 : decode cX8_mostLeft 30 = .ok (.iload 5, 2) := dq_21 (a := 5) (fd_r fcX8_mostLeft (by decide +kernel))
theorem dX8_mostLeft_32 : decode cX8_mostLeft 32 = .ok (.aload_n 0, 1) := dq_42 (fd_r fcX8_mostLeft (by decide +kernel))
theorem dX8_mostLeft_33 : decode cX8_mostLeft 33 = .ok (.getfield 55, 3) := dq_180 (a := 0) (b := 55) (fd_r fcX8_mostLeft (by decide +kernel)) rfl
theorem dX8_mostLeft_36 : decode cX8_mostLeft 36 = .ok (.if_icmp .ge 71, 3) := dq_162 (a := 0) (b := 71) (fd_r fcX8_mostLeft (by decide +kernel)) rfl
theorem dX8_mostLeft_39 : decode cX8_mostLeft 39 = .ok (.iload 5, 2) := dq_21 (a := 5) (fd_r fcX8_mostLeft (by decide +kernel))
theorem dX8_mostLeft_41 : decode cX8_mostLeft 41 = .ok (.sipush 256, 3) := dq_17 (a := 1) (b := 0) (fd_r fcX8_mostLeft (by decide +kernel)) rfl
theorem dX8_mostLeft_44 : decode cX8_mostLeft 44 = .ok (.if_icmp .ge 63, 3) := dq_162 (a := 0) (b := 63) (fd_r fcX8_mostLeft (by decide +kernel)) rfl
theorem dX8_mostLeft_47 : decode cX8_mostLeft 47 = .ok (.aload_n 2, 1) := dq_44 (fd_r fcX8_mostLeft (by decide +kernel))
theorem dX8_mostLeft_48 : decode cX8_mostLeft 48 = .ok (.aload_n 1, 1) := dq_43 (fd_r fcX8_mostLeft (by decide +kernel))
theorem dX8_mostLeft_49 : decode cX8_mostLeft 49 = .ok (.iload_n 3, 1) := dq_29 (fd_r fcX8_mostLeft (by decide +kernel))
theorem dX8_mostLeft_50 : decode cX8_mostLeft 50 = .ok (.aload_n 0, 1) := dq_42 (fd_r fcX8_mostLeft (by decide +kernel))
theorem dX8_mostLeft_51 : decode cX8_mostLeft 51 = .ok (.getfield 18, 3) := dq_180 (a := 0) (b := 18) (fd_r fcX8_mostLeft (by decide +kernel)) rfl
theorem dX8_mostLeft_54 : decode cX8_mostLeft 54 = .ok (.iload 5, 2) := dq_21 (a := 5) (fd_r fcX8_mostLeft (by decide +kernel))
theorem dX8_mostLeft_56 : decode cX8_mostLeft 56 = .ok (.iaload, 1) := dq_46 (fd_r fcX8_mostLeft (by decide +kernel))
theorem dX8_mostLeft_57 : decode cX8_mostLeft 57 = .ok (.invokevirtual 65, 3) := dq_182 (a := 0) (b := 65) (fd_r fcX8_mostLeft (by decide +kernel)) rfl
theorem dX8_mostLeft_60 : decode cX8_mostLeft 60 = .ok (.iconst 1, 1) := dq_4 (fd_r fcX8_mostLeft (by decide +kernel))
end
section
theorem dX8_mostLeft_61 : decode cX8_mostLeft 61 = .ok (.iadd, 1) := dq_96 (fd_r fcX8_mostLeft (by decide +kernel))
theorem dX8_mostLeft_62 : decode cX8_mostLeft 62 = .ok (.istore 6, 2) := dq_54 (a := 6) (fd_r fcX8_mostLeft (by decide +kernel))
theorem dX8_mostLeft_64 : decode cX8_mostLeft 64 = .ok (.iload 6, 2) := dq_21 (a := 6) (fd_r fcX8_mostLeft (by decide +kernel))
theorem dX8_mostLeft_66 : decode cX8_mostLeft 66 = .ok (.ifCond .lt 35, 3) := dq_155 (a := 0) (b := 35) (fd_r fcX8_mostLeft (by decide +kernel)) rfl
theorem dX8_mostLeft_69 : decode cX8_mostLeft 69 = .ok (.iload 6, 2) := dq_21 (a := 6) (fd_r fcX8_mostLeft (by decide +kernel))
theorem dX8_mostLeft_71 : decode cX8_mostLeft 71 = .ok (.bipush 12, 2) := dq_16 (a := 12) (fd_r fcX8_mostLeft (by decide +kernel)) rfl
theorem dX8_mostLeft_73 : decode cX8_mostLeft 73 = .ok (.if_icmp .gt 28, 3) := dq_163 (a := 0) (b := 28) (fd_r fcX8_mostLeft (by decide +kernel)) rfl
theorem dX8_mostLeft_76 : decode cX8_mostLeft 76 = .ok (.aload_n 0, 1) := dq_42 (fd_r fcX8_mostLeft (by decide +kernel))
theorem dX8_mostLeft_77 : decode cX8_mostLeft 77 = .ok (.getfield 21, 3) := dq_180 (a := 0) (b := 21) (fd_r fcX8_mostLeft (by decide +kernel)) rfl
theorem dX8_mostLeft_80 : decode cX8_mostLeft 80 = .ok (.iload 6, 2) := dq_21 (a := 6) (fd_r fcX8_mostLeft (by decide +kernel))
theorem dX8_mostLeft_82 : decode cX8_mostLeft 82 = .ok (.dup2, 1) := dq_92 (fd_r fcX8_mostLeft (by decide +kernel))
theorem dX8_mostLeft_83 : decode cX8_mostLeft 83 = .ok (.iaload, 1) := dq_46 (fd_r fcX8_mostLeft (by decide +kernel))
theorem dX8_mostLeft_84 : decode cX8_mostLeft 84 = .ok (.iconst 1, 1) := dq_4 (fd_r fcX8_mostLeft (by decide +kernel))
theorem dX8_mostLeft_85 : decode cX8_mostLeft 85 = .ok (.iadd, 1) := dq_96 (fd_r fcX8_mostLeft (by decide +kernel))
theorem dX8_mostLeft_86 : decode cX8_mostLeft 86 = .ok (.iastore, 1) := dq_79 (fd_r fcX8_mostLeft (by decide +kernel))
theorem dX8_mostLeft_87 : decode cX8_mostLeft 87 = .ok (.iload 4, 2) := dq_21 (a := 4) (fd_r fcX8_mostLeft (by decide +kernel))
theorem dX8_mostLeft_89 : decode cX8_mostLeft 89 = .ok (.aload_n 0, 1) := dq_42 (fd_r fcX8_mostLeft (by decide +kernel))
theorem dX8_mostLeft_90 : decode cX8_mostLeft 90 = .ok (.getfield 21, 3) := dq_180 (a := 0) (b := 21) (fd_r fcX8_mostLeft (by decide +kernel)) rfl
theorem dX8_mostLeft_93 : decode cX8_mostLeft 93 = .ok (.iload 6, 2) := dq_21 (a := 6) (fd_r fcX8_mostLeft (by decide +kernel))
theorem dX8_mostLeft_95 : decode cX8_mostLeft 95 = .ok (.iaload, 1) := dq_46 (fd_r fcX8_mostLeft (by decide +kernel))
theorem dX8_mostLeft_96 : decode cX8_mostLeft 96 = .ok (.invokestatic 69, 3) := dq_184 (a := 0) (b := 69) (fd_r fcX8_mostLeft (by decide +kernel)) rfl
theorem dX8_mostLeft_99 : decode cX8_mostLeft 99 = .ok (.istore 4, 2) := dq_54 (a := 4) (fd_r fcX8_mostLeft (by decide +kernel))
theorem dX8_mostLeft_101 : decode cX8_mostLeft 101 = .ok (.iinc 5 1, 3) := dq_132 (a := 5) (b := 1) (fd_r fcX8_mostLeft (by decide +kernel)) rfl
theorem dX8_mostLeft_104 : decode cX8_mostLeft 104 = .ok (.goto (-74), 3) := dq_167 (a := 255) (b := 182) (fd_r fcX8_mostLeft (by decide +kernel)) rfl
theorem dX8_mostLeft_107 : decode cX8_mostLeft 107 = .ok (.iload 4, 2) := dq_21 (a := 4) (fd_r fcX8_mostLeft (by decide +kernel))
theorem dX8_mostLeft_109 : decode cX8_mostLeft 109 = .ok (.ireturn, 1) := dq_172 (fd_r fcX8_mostLeft (by decide +kernel))
theorem dX9_init_0 : decode cX9_init 0 = .ok (.aload_n 0, 1) := dq_42 (fd_r fcX9_init (by decide +kernel))
theorem dX9_init_1 : decode cX9_init 1 = .ok (.invokespecial 3, 3) := dq_183 (a := 0) (b := 3) (fd_r fcX9_init (by decide +kernel)) rfl
theorem dX9_init_4 : decode cX9_init 4 = .ok (.aload_n 0, 1) := dq_42 (fd_r fcX9_init (by decide +kernel))
theorem dX9_init_5 : decode cX9_init 5 = .ok (.new 9, 3) := dq_187 (a := 0) (b := 9) (fd_r fcX9_init (by decide +kernel)) rfl
theorem dX9_init_8 : decode cX9_init 8 = .ok (.dup, 1) := dq_89 (fd_r fcX9_init (by decide +kernel))
theorem dX9_init_9 : decode cX9_init 9 = .ok (.invokespecial 11, 3) := dq_183 (a := 0) (b := 11) (fd_r fcX9_init (by decide +kernel)) rfl
theorem dX9_init_12 : decode cX9_init 12 = .ok (.putfield 12, 3) := dq_181 (a := 0) (b := 12) (fd_r fcX9_init (by decide +kernel)) rfl
theorem dX9_init_15 : decode cX9_init 15 = .ok (.aload_n 0, 1) := dq_42 (fd_r fcX9_init (by decide +kernel))
theorem dX9_init_16 : decode cX9_init 16 = .ok (.iconst 4, 1) := dq_7 (fd_r fcX9_init (by decide +kernel))
theorem dX9_init_17 : decode cX9_init 17 = .ok (.newarray .int, 2) := by decide +kernel
theorem dX9_init_19 : decode cX9_init 19 = .ok (.putfield 18, 3) := dq_181 (a := 0) (b := 18) (fd_r fcX9_init (by decide +kernel)) rfl
theorem dX9_init_22 : decode cX9_init 22 = .ok (.aload_n 0, 1) := dq_42 (fd_r fcX9_init (by decide +kernel))
theorem dX9_init_23 : decode cX9_init 23 = .ok (.iconst 4, 1) := dq_7 (fd_r fcX9_init (by decide +kernel))
theorem dX9_init_24 : decode cX9_init 24 = .ok (.newarray .int, 2) := by decide +kernel
theorem dX9_init_26 : decode cX9_init 26 = .ok (.putfield 22, 3) := dq_181 (a := 0) (b := 22) (fd_r fcX9_init (by decide +kernel)) rfl
theorem dX9_init_29 : decode cX9_init 29 = .ok (.aload_n 0, 1) := dq_42 (fd_r fcX9_init (by decide +kernel))
theorem dX9_init_30 : decode cX9_init 30 = .ok (.iconst 4, 1) := dq_7 (fd_r fcX9_init (by decide +kernel))
theorem dX9_init_31 : decode cX9_init 31 = .ok (.newarray .int, 2) := by decide +kernel
theorem dX9_init_33 : decode cX9_init 33 = .ok (.putfield 25, 3) := dq_181 (a := 0) (b := 25) (fd_r fcX9_init (by decide +kernel)) rfl
theorem dX9_init_36 : decode cX9_init 36 = .ok (.aload_n 0, 1) := dq_42 (fd_r fcX9_init (by decide +kernel))
theorem dX9_init_37 : decode cX9_init 37 = .ok (.bipush 12, 2) := dq_16 (a := 12) (fd_r fcX9_init (by decide +kernel)) rfl
theorem dX9_init_39 : decode cX9_init 39 = .ok (.newarray .int, 2) := by decide +kernel
theorem dX9_init_41 : decode cX9_init 41 = .ok (.putfield 28, 3) := dq_181 (a := 0) (b := 28) (fd_r fcX9_init (by decide +kernel)) rfl
theorem dX9_init_44 : decode cX9_init 44 = .ok (.aload_n 0, 1) := dq_42 (fd_r fcX9_init (by decide +kernel))
theorem dX9_init_45 : decode cX9_init 45 = .ok (.iconst 4, 1) := dq_7 (fd_r fcX9_init (by decide +kernel))
theorem dX9_init_46 : decode cX9_init 46 = .ok (.sipush 2048, 3) := dq_17 (a := 8) (b := 0) (fd_r fcX9_init (by decide +kernel)) rfl
theorem dX9_init_49 : decode cX9_init 49 = .ok (.multianewarray 31 2, 4) := by decide +kernel
theorem dX9_init_53 : decode cX9_init 53 = .ok (.putfield 33, 3) := dq_181 (a := 0) (b := 33) (fd_r fcX9_init (by decide +kernel)) rfl
theorem dX9_init_56 : decode cX9_init 56 = .ok (.return_, 1) := dq_177 (fd_r fcX9_init (by decide +kernel))
theorem dX9_clear_0 : decode cX9_clear 0 = .ok (.aload_n 0, 1) := dq_42 (fd_r fcX9_clear (by decide +kernel))
theorem dX9_clear_1 : decode cX9_clear 1 = .ok (.getfield 12, 3) := dq_180 (a := 0) (b := 12) (fd_r fcX9_clear (by decide +kernel)) rfl
theorem dX9_clear_4 : decode cX9_clear 4 = .ok (.invokevirtual 36, 3) := dq_182 (a := 0) (b := 36) (fd_r fcX9_clear (by decide +kernel)) rfl
theorem dX9_clear_7 : decode cX9_clear 7 = .ok (.aload_n 0, 1) := dq_42 (fd_r fcX9_clear (by decide +kernel))
theorem dX9_clear_8 : decode cX9_clear 8 = .ok (.iconst 0, 1) := dq_3 (fd_r fcX9_clear (by decide +kernel))
theorem dX9_clear_9 : decode cX9_clear 9 = .ok (.putfield 39, 3) := dq_181 (a := 0) (b := 39) (fd_r fcX9_clear (by decide +kernel)) rfl
theorem dX9_clear_12 : decode cX9_clear 12 = .ok (.aload_n 0, 1) := dq_42 (fd_r fcX9_clear (by decide +kernel))
theorem dX9_clear_13 : decode cX9_clear 13 = .ok (.iconst 0, 1) := dq_3 (fd_r fcX9_clear (by decide +kernel))
theorem dX9_clear_14 : decode cX9_clear 14 = .ok (.putfield 43, 3) := dq_181 (a := 0) (b := 43) (fd_r fcX9_clear (by decide +kernel)) rfl
theorem dX9_clear_17 : decode cX9_clear 17 = .ok (.aload_n 0, 1) := dq_42 (fd_r fcX9_clear (by decide +kernel))
theorem dX9_clear_18 : decode cX9_clear 18 = .ok (.iconst 0, 1) := dq_3 (fd_r fcX9_clear (by decide +kernel))
theorem dX9_clear_19 : decode cX9_clear 19 = .ok (.putfield 46, 3) := dq_181 (a := 0) (b := 46) (fd_r fcX9_clear (by decide +kernel)) rfl
theorem dX9_clear_22 : decode cX9_clear 22 = .ok (.aload_n 0, 1) := dq_42 (fd_r fcX9_clear (by decide +kernel))
theorem dX9_clear_23 : decode cX9_clear 23 = .ok (.iconst 0, 1) := dq_3 (fd_r fcX9_clear (by decide +kernel))
theorem dX9_clear_24 : decode cX9_clear 24 = .ok (.putfield 49, 3) := dq_181 (a := 0) (b := 49) (fd_r fcX9_clear (by decide +kernel)) rfl
theorem dX9_clear_27 : decode cX9_clear 27 = .ok (.aload_n 0, 1) := dq_42 (fd_r fcX9_clear (by decide +kernel))
theorem dX9_clear_28 : decode cX9_clear 28 = .ok (.sipush 300, 3) := dq_17 (a := 1) (b := 44) (fd_r fcX9_clear (by decide +kernel)) rfl
theorem dX9_clear_31 : decode cX9_clear 31 = .ok (.putfield 52, 3) := dq_181 (a := 0) (b := 52) (fd_r fcX9_clear (by decide +kernel)) rfl
theorem dX9_clear_34 : decode cX9_clear 34 = .ok (.return_, 1) := dq_177 (fd_r fcX9_clear (by decide +kernel))
theorem dX9_addColumn_0 : decode cX9_addColumn 0 = .ok (.aload_n 0, 1) := dq_42 (fd_r fcX9_addColumn (by decide +kernel))
theorem dX9_addColumn_1 : decode cX9_addColumn 1 = .ok (.getfield 12, 3) := dq_180 (a := 0) (b := 12) (fd_r fcX9_addColumn (by decide +kernel)) rfl
theorem dX9_addColumn_4 : decode cX9_addColumn 4 = .ok (.iload_n 1, 1) := dq_27 (fd_r fcX9_addColumn (by decide +kernel))
theorem dX9_addColumn_5 : decode cX9_addColumn 5 = .ok (.invokevirtual 55, 3) := dq_182 (a := 0) (b := 55) (fd_r fcX9_addColumn (by decide +kernel)) rfl
theorem dX9_addColumn_8 : decode cX9_addColumn 8 = .ok (.istore_n 2, 1) := dq_61 (fd_r fcX9_addColumn (by decide +kernel))
theorem dX9_addColumn_9 : decode cX9_addColumn 9 = .ok (.aload_n 0, 1) := dq_42 (fd_r fcX9_addColumn (by decide +kernel))
theorem dX9_addColumn_10 : decode cX9_addColumn 10 = .ok (.getfield 39, 3) := dq_180 (a := 0) (b := 39) (fd_r fcX9_addColumn (by decide +kernel)) rfl
theorem dX9_addColumn_13 : decode cX9_addColumn 13 = .ok (.iconst 4, 1) := dq_7 (fd_r fcX9_addColumn (by decide +kernel))
theorem dX9_addColumn_14 : decode cX9_addColumn 14 = .ok (.if_icmp .ge 10, 3) := dq_162 (a := 0) (b := 10) (fd_r fcX9_addColumn (by decide +kernel)) rfl
theorem dX9_addColumn_17 : decode cX9_addColumn 17 = .ok (.iload_n 2, 1) := dq_28 (fd_r fcX9_addColumn (by decide +kernel))
theorem dX9_addColumn_18 : decode cX9_addColumn 18 = .ok (.sipush 2048, 3) := dq_17 (a := 8) (b := 0) (fd_r fcX9_addColumn (by decide +kernel)) rfl
theorem dX9_addColumn_21 : decode cX9_addColumn 21 = .ok (.if_icmp .le 4, 3) := dq_164 (a := 0) (b := 4) (fd_r fcX9_addColumn (by decide +kernel)) rfl
theorem dX9_addColumn_25 : decode cX9_addColumn 25 = .ok (.aload_n 0, 1) := dq_42 (fd_r fcX9_addColumn (by decide +kernel))
theorem dX9_addColumn_26 : decode cX9_addColumn 26 = .ok (.getfield 18, 3) := dq_180 (a := 0) (b := 18) (fd_r fcX9_addColumn (by decide +kernel)) rfl
theorem dX9_addColumn_29 : decode cX9_addColumn 29 = .ok (.aload_n 0, 1) := dq_42 (fd_r fcX9_addColumn (by decide +kernel))
theorem dX9_addColumn_30 : decode cX9_addColumn 30 = .ok (.getfield 39, 3) := dq_180 (a := 0) (b := 39) (fd_r fcX9_addColumn (by decide +kernel)) rfl
theorem dX9_addColumn_33 : decode cX9_addColumn 33 = .ok (.iload_n 1, 1) := dq_27 (fd_r fcX9_addColumn (by decide +kernel))
theorem dX9_addColumn_34 : decode cX9_addColumn 34 = .ok (.iastore, 1) := dq_79 (fd_r fcX9_addColumn (by decide +kernel))
theorem dX9_addColumn_35 : decode cX9_addColumn 35 = .ok (.aload_n 0, 1) := dq_42 (fd_r fcX9_addColumn (by decide +kernel))
theorem dX9_addColumn_36 : decode cX9_addColumn 36 = .ok (.getfield 22, 3) := dq_180 (a := 0) (b := 22) (fd_r fcX9_addColumn (by decide +kernel)) rfl
theorem dX9_addColumn_39 : decode cX9_addColumn 39 = .ok (.aload_n 0, 1) := dq_42 (fd_r fcX9_addColumn (by decide +kernel))
theorem dX9_addColumn_40 : decode cX9_addColumn 40 = .ok (.getfield 39, 3) := dq_180 (a := 0) (b := 39) (fd_r fcX9_addColumn (by decide +kernel)) rfl
theorem dX9_addColumn_43 : decode cX9_addColumn 43 = .ok (.iload_n 2, 1) := dq_28 (fd_r fcX9_addColumn (by decide +kernel))
theorem dX9_addColumn_44 : decode cX9_addColumn 44 = .ok (.iastore, 1) := dq_79 (fd_r fcX9_addColumn (by decide +kernel))
theorem dX9_addColumn_45 : decode cX9_addColumn 45 = .ok (.aload_n 0, 1) := dq_42 (fd_r fcX9_addColumn (by decide +kernel))
theorem dX9_addColumn_46 : decode cX9_addColumn 46 = .ok (.getfield 25, 3) := dq_180 (a := 0) (b := 25) (fd_r fcX9_addColumn (by decide +kernel)) rfl
theorem dX9_addColumn_49 : decode cX9_addColumn 49 = .ok (.aload_n 0, 1) := dq_42 (fd_r fcX9_addColumn (by decide +kernel))
theorem dX9_addColumn_50 : decode cX9_addColumn 50 = .ok (.getfield 39, 3) := dq_180 (a := 0) (b := 39) (fd_r fcX9_addColumn (by decide +kernel)) rfl
theorem dX9_addColumn_53 : decode cX9_addColumn 53 = .ok (.iconst 0, 1) := dq_3 (fd_r fcX9_addColumn (by decide +kernel))
theorem dX9_addColumn_54 : decode cX9_addColumn 54 = .ok (.iastore, 1) := dq_79 (fd_r fcX9_addColumn (by decide +kernel))
theorem dX9_addColumn_55 : decode cX9_addColumn 55 = .ok (.iconst 0, 1) := dq_3 (fd_r fcX9_addColumn (by decide +kernel))
theorem dX9_addColumn_56 : decode cX9_addColumn 56 = .ok (.istore_n 3, 1) := dq_62 (fd_r fcX9_addColumn (by decide +kernel))
theorem dX9_addColumn_57 : decode cX9_addColumn 57 = .ok (.iload_n 3, 1) := dq_29 (fd_r fcX9_addColumn (by decide +kernel))
theorem dX9_addColumn_58 : decode cX9_addColumn 58 = .ok (.iload_n 2, 1) := dq_28 (fd_r fcX9_addColumn (by decide +kernel))
theorem dX9_addColumn_59 : decode cX9_addColumn 59 = .ok (.if_icmp .ge 21, 3) := dq_162 (a := 0) (b := 21) (fd_r fcX9_addColumn (by decide +kernel)) rfl
theorem dX9_addColumn_62 : decode cX9_addColumn 62 = .ok (.aload_n 0, 1) := dq_42 (fd_r fcX9_addColumn (by decide +kernel))
theorem dX9_addColumn_63 : decode cX9_addColumn 63 = .ok (.getfield 33, 3) := dq_180 (a := 0) (b := 33) (fd_r fcX9_addColumn (by decide +kernel)) rfl
theorem dX9_addColumn_66 : decode cX9_addColumn 66 = .ok (.aload_n 0, 1) := dq_42 (fd_r fcX9_addColumn (by decide +kernel))
theorem dX9_addColumn_67 : decode cX9_addColumn 67 = .ok (.getfield 39, 3) := dq_180 (a := 0) (b := 39) (fd_r fcX9_addColumn (by decide +kernel)) rfl
theorem dX9_addColumn_70 : decode cX9_addColumn 70 = .ok (.aaload, 1) := dq_50 (fd_r fcX9_addColumn (by decide +kernel))
theorem dX9_addColumn_71 : decode cX9_addColumn 71 = .ok (.iload_n 3, 1) := dq_29 (fd_r fcX9_addColumn (by decide +kernel))
theorem dX9_addColumn_72 : decode cX9_addColumn 72 = .ok (.iconst 0, 1) := dq_3 (fd_r fcX9_addColumn (by decide +kernel))
theorem dX9_addColumn_73 : decode cX9_addColumn 73 = .ok (.iastore, 1) := dq_79 (fd_r fcX9_addColumn (by decide +kernel))
theorem dX9_addColumn_74 : decode cX9_addColumn 74 = .ok (.iinc 3 1, 3) := dq_132 (a := 3) (b := 1) (fd_r fcX9_addColumn (by decide +kernel)) rfl
theorem dX9_addColumn_77 : decode cX9_addColumn 77 = .ok (.goto (-20), 3) := dq_167 (a := 255) (b := 236) (fd_r fcX9_addColumn (by decide +kernel)) rfl
theorem dX9_addColumn_80 : decode cX9_addColumn 80 = .ok (.aload_n 0, 1) := dq_42 (fd_r fcX9_addColumn (by decide +kernel))
theorem dX9_addColumn_81 : decode cX9_addColumn 81 = .ok (.aload_n 0, 1) := dq_42 (fd_r fcX9_addColumn (by decide +kernel))
theorem dX9_addColumn_82 : decode cX9_addColumn 82 = .ok (.getfield 39, 3) := dq_180 (a := 0) (b := 39) (fd_r fcX9_addColumn (by decide +kernel)) rfl
theorem dX9_addColumn_85 : decode cX9_addColumn 85 = .ok (.ifCond .ne 7, 3) := dq_154 (a := 0) (b := 7) (fd_r fcX9_addColumn (by decide +kernel)) rfl
theorem dX9_addColumn_88 : decode cX9_addColumn 88 = .ok (.iload_n 2, 1) := dq_28 (fd_r fcX9_addColumn (by decide +kernel))
theorem dX9_addColumn_89 : decode cX9_addColumn 89 = .ok (.goto 9, 3) := dq_167 (a := 0) (b := 9) (fd_r fcX9_addColumn (by decide +kernel)) rfl
theorem dX9_addColumn_92 : decode cX9_addColumn 92 = .ok (.aload_n 0, 1) := dq_42 (fd_r fcX9_addColumn (by decide +kernel))
theorem dX9_addColumn_93 : decode cX9_addColumn 93 = .ok (.getfield 43, 3) := dq_180 (a := 0) (b := 43) (fd_r fcX9_addColumn (by decide +kernel)) rfl
theorem dX9_addColumn_96 : decode cX9_addColumn 96 = .ok (.iload_n 2, 1) := dq_28 (fd_r fcX9_addColumn (by decide +kernel))
theorem dX9_addColumn_97 : decode cX9_addColumn 97 = .ok (.imul, 1) := dq_104 (fd_r fcX9_addColumn (by decide +kernel))
theorem dX9_addColumn_98 : decode cX9_addColumn 98 = .ok (.putfield 43, 3) := dq_181 (a := 0) (b := 43) (fd_r fcX9_addColumn (by decide +kernel)) rfl
theorem dX9_addColumn_101 : decode cX9_addColumn 101 = .ok (.aload_n 0, 1) := dq_42 (fd_r fcX9_addColumn (by decide +kernel))
theorem dX9_addColumn_102 : decode cX9_addColumn 102 = .ok (.dup, 1) := dq_89 (fd_r fcX9_addColumn (by decide +kernel))
theorem dX9_addColumn_103 : decode cX9_addColumn 103 = .ok (.getfield 39, 3) := dq_180 (a := 0) (b := 39) (fd_r fcX9_addColumn (by decide +kernel)) rfl
theorem dX9_addColumn_106 : decode cX9_addColumn 106 = .ok (.iconst 1, 1) := dq_4 (fd_r fcX9_addColumn (by decide +kernel))
theorem dX9_addColumn_107 : decode cX9_addColumn 107 = .ok (.iadd, 1) := dq_96 (fd_r fcX9_addColumn (by decide +kernel))
theorem dX9_addColumn_108 : decode cX9_addColumn 108 = .ok (.putfield 39, 3) := dq_181 (a := 0) (b := 39) (fd_r fcX9_addColumn (by decide +kernel)) rfl
theorem dX9_addColumn_111 : decode cX9_addColumn 111 = .ok (.return_, 1) := dq_177 (fd_r fcX9_addColumn (by decide +kernel))
theorem dX9_setPattern_0 : decode cX9_setPattern 0 = .ok (.iload_n 1, 1) := dq_27 (fd_r fcX9_setPattern (by decide +kernel))
theorem dX9_setPattern_1 : decode cX9_setPattern 1 = .ok (.ifCond .lt 20, 3) := dq_155 (a := 0) (b := 20) (fd_r fcX9_setPattern (by decide +kernel)) rfl
theorem dX9_setPattern_4 : decode cX9_setPattern 4 = .ok (.iload_n 1, 1) := dq_27 (fd_r fcX9_setPattern (by decide +kernel))
theorem dX9_setPattern_5 : decode cX9_setPattern 5 = .ok (.aload_n 0, 1) := dq_42 (fd_r fcX9_setPattern (by decide +kernel))
theorem dX9_setPattern_6 : decode cX9_setPattern 6 = .ok (.getfield 39, 3) := dq_180 (a := 0) (b := 39) (fd_r fcX9_setPattern (by decide +kernel)) rfl
theorem dX9_setPattern_9 : decode cX9_setPattern 9 = .ok (.if_icmp .ge 12, 3) := dq_162 (a := 0) (b := 12) (fd_r fcX9_setPattern (by decide +kernel)) rfl
theorem dX9_setPattern_12 : decode cX9_setPattern 12 = .ok (.aload_n 0, 1) := dq_42 (fd_r fcX9_setPattern (by decide +kernel))
theorem dX9_setPattern_13 : decode cX9_setPattern 13 = .ok (.getfield 46, 3) := dq_180 (a := 0) (b := 46) (fd_r fcX9_setPattern (by decide +kernel)) rfl
theorem dX9_setPattern_16 : decode cX9_setPattern 16 = .ok (.bipush 12, 2) := dq_16 (a := 12) (fd_r fcX9_setPattern (by decide +kernel)) rfl
theorem dX9_setPattern_18 : decode cX9_setPattern 18 = .ok (.if_icmp .lt 4, 3) := dq_161 (a := 0) (b := 4) (fd_r fcX9_setPattern (by decide +kernel)) rfl
theorem dX9_setPattern_21 : decode cX9_setPattern 21 = .ok (.return_, 1) := dq_177 (fd_r fcX9_setPattern (by decide +kernel))
theorem dX9_setPattern_22 : decode cX9_setPattern 22 = .ok (.iconst 1, 1) := dq_4 (fd_r fcX9_setPattern (by decide +kernel))
theorem dX9_setPattern_23 : decode cX9_setPattern 23 = .ok (.aload_n 0, 1) := dq_42 (fd_r fcX9_setPattern (by decide +kernel))
theorem dX9_setPattern_24 : decode cX9_setPattern 24 = .ok (.getfield 46, 3) := dq_180 (a := 0) (b := 46) (fd_r fcX9_setPattern (by decide +kernel)) rfl
theorem dX9_setPattern_27 : decode cX9_setPattern 27 = .ok (.ishl, 1) := dq_120 (fd_r fcX9_setPattern (by decide +kernel))
theorem dX9_setPattern_28 : decode cX9_setPattern 28 = .ok (.istore_n 3, 1) := dq_62 (fd_r fcX9_setPattern (by decide +kernel))
theorem dX9_setPattern_29 : decode cX9_setPattern 29 = .ok (.iconst 1, 1) := dq_4 (fd_r fcX9_setPattern (by decide +kernel))
theorem dX9_setPattern_30 : decode cX9_setPattern 30 = .ok (.istore 4, 2) := dq_54 (a := 4) (fd_r fcX9_setPattern (by decide +kernel))
theorem dX9_setPattern_32 : decode cX9_setPattern 32 = .ok (.iconst 0, 1) := dq_3 (fd_r fcX9_setPattern (by decide +kernel))
theorem dX9_setPattern_33 : decode cX9_setPattern 33 = .ok (.istore 5, 2) := dq_54 (a := 5) (fd_r fcX9_setPattern (by decide +kernel))
theorem dX9_setPattern_35 : decode cX9_setPattern 35 = .ok (.iload 5, 2) := dq_21 (a := 5) (fd_r fcX9_setPattern (by decide +kernel))
theorem dX9_setPattern_37 : decode cX9_setPattern 37 = .ok (.aload_n 0, 1) := dq_42 (fd_r fcX9_setPattern (by decide +kernel))
theorem dX9_setPattern_38 : decode cX9_setPattern 38 = .ok (.getfield 22, 3) := dq_180 (a := 0) (b := 22) (fd_r fcX9_setPattern (by decide +kernel)) rfl
theorem dX9_setPattern_41 : decode cX9_setPattern 41 = .ok (.iload_n 1, 1) := dq_27 (fd_r fcX9_setPattern (by decide +kernel))
theorem dX9_setPattern_42 : decode cX9_setPattern 42 = .ok (.iaload, 1) := dq_46 (fd_r fcX9_setPattern (by decide +kernel))
theorem dX9_setPattern_43 : decode cX9_setPattern 43 = .ok (.if_icmp .ge 42, 3) := dq_162 (a := 0) (b := 42) (fd_r fcX9_setPattern (by decide +kernel)) rfl
theorem dX9_setPattern_46 : decode cX9_setPattern 46 = .ok (.iload 5, 2) := dq_21 (a := 5) (fd_r fcX9_setPattern (by decide +kernel))
theorem dX9_setPattern_48 : decode cX9_setPattern 48 = .ok (.aload_n 2, 1) := dq_44 (fd_r fcX9_setPattern (by decide +kernel))
theorem dX9_setPattern_49 : decode cX9_setPattern 49 = .ok (.arraylength, 1) := dq_190 (fd_r fcX9_setPattern (by decide +kernel))
theorem dX9_setPattern_50 : decode cX9_setPattern 50 = .ok (.if_icmp .ge 35, 3) := dq_162 (a := 0) (b := 35) (fd_r fcX9_setPattern (by decide +kernel)) rfl
theorem dX9_setPattern_53 : decode cX9_setPattern 53 = .ok (.aload_n 2, 1) := dq_44 (fd_r fcX9_setPattern (by decide +kernel))
theorem dX9_setPattern_54 : decode cX9_setPattern 54 = .ok (.iload 5, 2) := dq_21 (a := 5) (fd_r fcX9_setPattern (by decide +kernel))
theorem dX9_setPattern_56 : decode cX9_setPattern 56 = .ok (.iaload, 1) := dq_46 (fd_r fcX9_setPattern (by decide +kernel))
theorem dX9_setPattern_57 : decode cX9_setPattern 57 = .ok (.ifCond .eq 19, 3) := dq_153 (a := 0) (b := 19) (fd_r fcX9_setPattern (by decide +kernel)) rfl
theorem dX9_setPattern_60 : decode cX9_setPattern 60 = .ok (.aload_n 0, 1) := dq_42 (fd_r fcX9_setPattern (by decide +kernel))
theorem dX9_setPattern_61 : decode cX9_setPattern 61 = .ok (.getfield 33, 3) := dq_180 (a := 0) (b := 33) (fd_r fcX9_setPattern (by decide +kernel)) rfl
theorem dX9_setPattern_64 : decode cX9_setPattern 64 = .ok (.iload_n 1, 1) := dq_27 (fd_r fcX9_setPattern (by decide +kernel))
theorem dX9_setPattern_65 : decode cX9_setPattern 65 = .ok (.aaload, 1) := dq_50 (fd_r fcX9_setPattern (by decide +kernel))
theorem dX9_setPattern_66 : decode cX9_setPattern 66 = .ok (.iload 5, 2) := dq_21 (a := 5) (fd_r fcX9_setPattern (by decide +kernel))
theorem dX9_setPattern_68 : decode cX9_setPattern 68 = .ok (.dup2, 1) := dq_92 (fd_r fcX9_setPattern (by decide +kernel))
theorem dX9_setPattern_69 : decode cX9_setPattern 69 = .ok (.iaload, 1) := dq_46 (fd_r fcX9_setPattern (by decide +kernel))
theorem dX9_setPattern_70 : decode cX9_setPattern 70 = .ok (.iload_n 3, 1) := dq_29 (fd_r fcX9_setPattern (by decide +kernel))
theorem dX9_setPattern_71 : decode cX9_setPattern 71 = .ok (.ior, 1) := dq_128 (fd_r fcX9_setPattern (by decide +kernel))
theorem dX9_setPattern_72 : decode cX9_setPattern 72 = .ok (.iastore, 1) := dq_79 (fd_r fcX9_setPattern (by decide +kernel))
theorem dX9_setPattern_73 : decode cX9_setPattern 73 = .ok (.goto 6, 3) := dq_167 (a := 0) (b := 6) (fd_r fcX9_setPattern (by decide +kernel)) rfl
theorem dX9_setPattern_76 : decode cX9_setPattern 76 = .ok (.iconst 0, 1) := dq_3 (fd_r fcX9_setPattern (by decide +kernel))
theorem dX9_setPattern_77 : decode cX9_setPattern 77 = .ok (.istore 4, 2) := dq_54 (a := 4) (fd_r fcX9_setPattern (by decide +kernel))
theorem dX9_setPattern_79 : decode cX9_setPattern 79 = .ok (.iinc 5 1, 3) := dq_132 (a := 5) (b := 1) (fd_r fcX9_setPattern (by decide +kernel)) rfl
theorem dX9_setPattern_82 : decode cX9_setPattern 82 = .ok (.goto (-47), 3) := dq_167 (a := 255) (b := 209) (fd_r fcX9_setPattern (by decide +kernel)) rfl
theorem dX9_setPattern_85 : decode cX9_setPattern 85 = .ok (.iload 4, 2) := dq_21 (a := 4) (fd_r fcX9_setPattern (by decide +kernel))
theorem dX9_setPattern_87 : decode cX9_setPattern 87 = .ok (.ifCond .eq 13, 3) := dq_153 (a := 0) (b := 13) (fd_r fcX9_setPattern (by decide +kernel)) rfl
theorem dX9_setPattern_90 : decode cX9_setPattern 90 = .ok (.aload_n 0, 1) := dq_42 (fd_r fcX9_setPattern (by decide +kernel))
theorem dX9_setPattern_91 : decode cX9_setPattern 91 = .ok (.getfield 25, 3) := dq_180 (a := 0) (b := 25) (fd_r fcX9_setPattern (by decide +kernel)) rfl
theorem dX9_setPattern_94 : decode cX9_setPattern 94 = .ok (.iload_n 1, 1) := dq_27 (fd_r fcX9_setPattern (by decide +kernel))
theorem dX9_setPattern_95 : decode cX9_setPattern 95 = .ok (.dup2, 1) := dq_92 (fd_r fcX9_setPattern (by decide +kernel))
theorem dX9_setPattern_96 : decode cX9_setPattern 96 = .ok (.iaload, 1) := dq_46 (fd_r fcX9_setPattern (by decide +kernel))
theorem dX9_setPattern_97 : decode cX9_setPattern 97 = .ok (.iload_n 3, 1) := dq_29 (fd_r fcX9_setPattern (by decide +kernel))
theorem dX9_setPattern_98 : decode cX9_setPattern 98 = .ok (.ior, 1) := dq_128 (fd_r fcX9_setPattern (by decide +kernel))
theorem dX9_setPattern_99 : decode cX9_setPattern 99 = .ok (.iastore, 1) := dq_79 (fd_r fcX9_setPattern (by decide +kernel))
theorem dX9_setPattern_100 : decode cX9_setPattern 100 = .ok (.return_, 1) := dq_177 (fd_r fcX9_setPattern (by decide +kernel))
theorem dX9_addArm_0 : decode cX9_addArm 0 = .ok (.aload_n 0, 1) := dq_42 (fd_r fcX9_addArm (by decide +kernel))
theorem dX9_addArm_1 : decode cX9_addArm 1 = .ok (.getfield 46, 3) := dq_180 (a := 0) (b := 46) (fd_r fcX9_addArm (by decide +kernel)) rfl
theorem dX9_addArm_4 : decode cX9_addArm 4 = .ok (.bipush 12, 2) := dq_16 (a := 12) (fd_r fcX9_addArm (by decide +kernel)) rfl
theorem dX9_addArm_6 : decode cX9_addArm 6 = .ok (.if_icmp .ge 23, 3) := dq_162 (a := 0) (b := 23) (fd_r fcX9_addArm (by decide +kernel)) rfl
theorem dX9_addArm_9 : decode cX9_addArm 9 = .ok (.aload_n 0, 1) := dq_42 (fd_r fcX9_addArm (by decide +kernel))
theorem dX9_addArm_10 : decode cX9_addArm 10 = .ok (.getfield 28, 3) := dq_180 (a := 0) (b := 28) (fd_r fcX9_addArm (by decide +kernel)) rfl
theorem dX9_addArm_13 : decode cX9_addArm 13 = .ok (.aload_n 0, 1) := dq_42 (fd_r fcX9_addArm (by decide +kernel))
theorem dX9_addArm_14 : decode cX9_addArm 14 = .ok (.getfield 46, 3) := dq_180 (a := 0) (b := 46) (fd_r fcX9_addArm (by decide +kernel)) rfl
theorem dX9_addArm_17 : decode cX9_addArm 17 = .ok (.iload_n 1, 1) := dq_27 (fd_r fcX9_addArm (by decide +kernel))
theorem dX9_addArm_18 : decode cX9_addArm 18 = .ok (.iastore, 1) := dq_79 (fd_r fcX9_addArm (by decide +kernel))
theorem dX9_addArm_19 : decode cX9_addArm 19 = .ok (.aload_n 0, 1) := dq_42 (fd_r fcX9_addArm (by decide +kernel))
theorem dX9_addArm_20 : decode cX9_addArm 20 = .ok (.dup, 1) := dq_89 (fd_r fcX9_addArm (by decide +kernel))
theorem dX9_addArm_21 : decode cX9_addArm 21 = .ok (.getfield 46, 3) := dq_180 (a := 0) (b := 46) (fd_r fcX9_addArm (by decide +kernel)) rfl
theorem dX9_addArm_24 : decode cX9_addArm 24 = .ok (.iconst 1, 1) := dq_4 (fd_r fcX9_addArm (by decide +kernel))
theorem dX9_addArm_25 : decode cX9_addArm 25 = .ok (.iadd, 1) := dq_96 (fd_r fcX9_addArm (by decide +kernel))
theorem dX9_addArm_26 : decode cX9_addArm 26 = .ok (.putfield 46, 3) := dq_181 (a := 0) (b := 46) (fd_r fcX9_addArm (by decide +kernel)) rfl
theorem dX9_addArm_29 : decode cX9_addArm 29 = .ok (.return_, 1) := dq_177 (fd_r fcX9_addArm (by decide +kernel))
theorem dX9_guardOf_0 : decode cX9_guardOf 0 = .ok (.iload_n 1, 1) := dq_27 (fd_r fcX9_guardOf (by decide +kernel))
theorem dX9_guardOf_1 : decode cX9_guardOf 1 = .ok (.ifCond .lt 20, 3) := dq_155 (a := 0) (b := 20) (fd_r fcX9_guardOf (by decide +kernel)) rfl
theorem dX9_guardOf_4 : decode cX9_guardOf 4 = .ok (.iload_n 1, 1) := dq_27 (fd_r fcX9_guardOf (by decide +kernel))
theorem dX9_guardOf_5 : decode cX9_guardOf 5 = .ok (.aload_n 0, 1) := dq_42 (fd_r fcX9_guardOf (by decide +kernel))
theorem dX9_guardOf_6 : decode cX9_guardOf 6 = .ok (.getfield 46, 3) := dq_180 (a := 0) (b := 46) (fd_r fcX9_guardOf (by decide +kernel)) rfl
theorem dX9_guardOf_9 : decode cX9_guardOf 9 = .ok (.if_icmp .ge 12, 3) := dq_162 (a := 0) (b := 12) (fd_r fcX9_guardOf (by decide +kernel)) rfl
theorem dX9_guardOf_12 : decode cX9_guardOf 12 = .ok (.aload_n 0, 1) := dq_42 (fd_r fcX9_guardOf (by decide +kernel))
theorem dX9_guardOf_13 : decode cX9_guardOf 13 = .ok (.getfield 28, 3) := dq_180 (a := 0) (b := 28) (fd_r fcX9_guardOf (by decide +kernel)) rfl
theorem dX9_guardOf_16 : decode cX9_guardOf 16 = .ok (.iload_n 1, 1) := dq_27 (fd_r fcX9_guardOf (by decide +kernel))
theorem dX9_guardOf_17 : decode cX9_guardOf 17 = .ok (.iaload, 1) := dq_46 (fd_r fcX9_guardOf (by decide +kernel))
theorem dX9_guardOf_18 : decode cX9_guardOf 18 = .ok (.goto 4, 3) := dq_167 (a := 0) (b := 4) (fd_r fcX9_guardOf (by decide +kernel)) rfl
theorem dX9_guardOf_21 : decode cX9_guardOf 21 = .ok (.iconst (-1), 1) := dq_2 (fd_r fcX9_guardOf (by decide +kernel))
theorem dX9_guardOf_22 : decode cX9_guardOf 22 = .ok (.ireturn, 1) := dq_172 (fd_r fcX9_guardOf (by decide +kernel))
theorem dX9_isRow_0 : decode cX9_isRow 0 = .ok (.iload_n 1, 1) := dq_27 (fd_r fcX9_isRow (by decide +kernel))
theorem dX9_isRow_1 : decode cX9_isRow 1 = .ok (.ifCond .lt 15, 3) := dq_155 (a := 0) (b := 15) (fd_r fcX9_isRow (by decide +kernel)) rfl
theorem dX9_isRow_4 : decode cX9_isRow 4 = .ok (.iload_n 1, 1) := dq_27 (fd_r fcX9_isRow (by decide +kernel))
theorem dX9_isRow_5 : decode cX9_isRow 5 = .ok (.aload_n 0, 1) := dq_42 (fd_r fcX9_isRow (by decide +kernel))
theorem dX9_isRow_6 : decode cX9_isRow 6 = .ok (.getfield 43, 3) := dq_180 (a := 0) (b := 43) (fd_r fcX9_isRow (by decide +kernel)) rfl
theorem dX9_isRow_9 : decode cX9_isRow 9 = .ok (.if_icmp .ge 7, 3) := dq_162 (a := 0) (b := 7) (fd_r fcX9_isRow (by decide +kernel)) rfl
theorem dX9_isRow_12 : decode cX9_isRow 12 = .ok (.iconst 1, 1) := dq_4 (fd_r fcX9_isRow (by decide +kernel))
theorem dX9_isRow_13 : decode cX9_isRow 13 = .ok (.goto 4, 3) := dq_167 (a := 0) (b := 4) (fd_r fcX9_isRow (by decide +kernel)) rfl
theorem dX9_isRow_16 : decode cX9_isRow 16 = .ok (.iconst 0, 1) := dq_3 (fd_r fcX9_isRow (by decide +kernel))
theorem dX9_isRow_17 : decode cX9_isRow 17 = .ok (.ireturn, 1) := dq_172 (fd_r fcX9_isRow (by decide +kernel))
theorem dX9_armsFitting_0 : decode cX9_armsFitting 0 = .ok (.iload_n 1, 1) := dq_27 (fd_r fcX9_armsFitting (by decide +kernel))
theorem dX9_armsFitting_1 : decode cX9_armsFitting 1 = .ok (.ifCond .lt 22, 3) := dq_155 (a := 0) (b := 22) (fd_r fcX9_armsFitting (by decide +kernel)) rfl
theorem dX9_armsFitting_4 : decode cX9_armsFitting 4 = .ok (.iload_n 1, 1) := dq_27 (fd_r fcX9_armsFitting (by decide +kernel))
theorem dX9_armsFitting_5 : decode cX9_armsFitting 5 = .ok (.aload_n 0, 1) := dq_42 (fd_r fcX9_armsFitting (by decide +kernel))
theorem dX9_armsFitting_6 : decode cX9_armsFitting 6 = .ok (.getfield 39, 3) := dq_180 (a := 0) (b := 39) (fd_r fcX9_armsFitting (by decide +kernel)) rfl
theorem dX9_armsFitting_9 : decode cX9_armsFitting 9 = .ok (.if_icmp .ge 14, 3) := dq_162 (a := 0) (b := 14) (fd_r fcX9_armsFitting (by decide +kernel)) rfl
theorem dX9_armsFitting_12 : decode cX9_armsFitting 12 = .ok (.iload_n 2, 1) := dq_28 (fd_r fcX9_armsFitting (by decide +kernel))
theorem dX9_armsFitting_13 : decode cX9_armsFitting 13 = .ok (.ifCond .lt 10, 3) := dq_155 (a := 0) (b := 10) (fd_r fcX9_armsFitting (by decide +kernel)) rfl
theorem dX9_armsFitting_16 : decode cX9_armsFitting 16 = .ok (.iload_n 2, 1) := dq_28 (fd_r fcX9_armsFitting (by decide +kernel))
theorem dX9_armsFitting_17 : decode cX9_armsFitting 17 = .ok (.sipush 2048, 3) := dq_17 (a := 8) (b := 0) (fd_r fcX9_armsFitting (by decide +kernel)) rfl
theorem dX9_armsFitting_20 : decode cX9_armsFitting 20 = .ok (.if_icmp .lt 5, 3) := dq_161 (a := 0) (b := 5) (fd_r fcX9_armsFitting (by decide +kernel)) rfl
theorem dX9_armsFitting_23 : decode cX9_armsFitting 23 = .ok (.iconst 0, 1) := dq_3 (fd_r fcX9_armsFitting (by decide +kernel))
theorem dX9_armsFitting_24 : decode cX9_armsFitting 24 = .ok (.ireturn, 1) := dq_172 (fd_r fcX9_armsFitting (by decide +kernel))
theorem dX9_armsFitting_25 : decode cX9_armsFitting 25 = .ok (.aload_n 0, 1) := dq_42 (fd_r fcX9_armsFitting (by decide +kernel))
theorem dX9_armsFitting_26 : decode cX9_armsFitting 26 = .ok (.getfield 33, 3) := dq_180 (a := 0) (b := 33) (fd_r fcX9_armsFitting (by decide +kernel)) rfl
theorem dX9_armsFitting_29 : decode cX9_armsFitting 29 = .ok (.iload_n 1, 1) := dq_27 (fd_r fcX9_armsFitting (by decide +kernel))
theorem dX9_armsFitting_30 : decode cX9_armsFitting 30 = .ok (.aaload, 1) := dq_50 (fd_r fcX9_armsFitting (by decide +kernel))
theorem dX9_armsFitting_31 : decode cX9_armsFitting 31 = .ok (.iload_n 2, 1) := dq_28 (fd_r fcX9_armsFitting (by decide +kernel))
theorem dX9_armsFitting_32 : decode cX9_armsFitting 32 = .ok (.iaload, 1) := dq_46 (fd_r fcX9_armsFitting (by decide +kernel))
theorem dX9_armsFitting_33 : decode cX9_armsFitting 33 = .ok (.ireturn, 1) := dq_172 (fd_r fcX9_armsFitting (by decide +kernel))
theorem dX9_valueOf_0 : decode cX9_valueOf 0 = .ok (.iload_n 1, 1) := dq_27 (fd_r fcX9_valueOf (by decide +kernel))
theorem dX9_valueOf_1 : decode cX9_valueOf 1 = .ok (.istore_n 3, 1) := dq_62 (fd_r fcX9_valueOf (by decide +kernel))
theorem dX9_valueOf_2 : decode cX9_valueOf 2 = .ok (.aload_n 0, 1) := dq_42 (fd_r fcX9_valueOf (by decide +kernel))
theorem dX9_valueOf_3 : decode cX9_valueOf 3 = .ok (.getfield 39, 3) := dq_180 (a := 0) (b := 39) (fd_r fcX9_valueOf (by decide +kernel)) rfl
theorem dX9_valueOf_6 : decode cX9_valueOf 6 = .ok (.iconst 1, 1) := dq_4 (fd_r fcX9_valueOf (by decide +kernel))
theorem dX9_valueOf_7 : decode cX9_valueOf 7 = .ok (.isub, 1) := dq_100 (fd_r fcX9_valueOf (by decide +kernel))
theorem dX9_valueOf_8 : decode cX9_valueOf 8 = .ok (.istore 4, 2) := dq_54 (a := 4) (fd_r fcX9_valueOf (by decide +kernel))
theorem dX9_valueOf_10 : decode cX9_valueOf 10 = .ok (.iload 4, 2) := dq_21 (a := 4) (fd_r fcX9_valueOf (by decide +kernel))
theorem dX9_valueOf_12 : decode cX9_valueOf 12 = .ok (.iload_n 2, 1) := dq_28 (fd_r fcX9_valueOf (by decide +kernel))
theorem dX9_valueOf_13 : decode cX9_valueOf 13 = .ok (.if_icmp .le 33, 3) := dq_164 (a := 0) (b := 33) (fd_r fcX9_valueOf (by decide +kernel)) rfl
theorem dX9_valueOf_16 : decode cX9_valueOf 16 = .ok (.aload_n 0, 1) := dq_42 (fd_r fcX9_valueOf (by decide +kernel))
theorem dX9_valueOf_17 : decode cX9_valueOf 17 = .ok (.getfield 22, 3) := dq_180 (a := 0) (b := 22) (fd_r fcX9_valueOf (by decide +kernel)) rfl
theorem dX9_valueOf_20 : decode cX9_valueOf 20 = .ok (.iload 4, 2) := dq_21 (a := 4) (fd_r fcX9_valueOf (by decide +kernel))
theorem dX9_valueOf_22 : decode cX9_valueOf 22 = .ok (.iaload, 1) := dq_46 (fd_r fcX9_valueOf (by decide +kernel))
theorem dX9_valueOf_23 : decode cX9_valueOf 23 = .ok (.ifCond .le 15, 3) := dq_158 (a := 0) (b := 15) (fd_r fcX9_valueOf (by decide +kernel)) rfl
theorem dX9_valueOf_26 : decode cX9_valueOf 26 = .ok (.iload_n 3, 1) := dq_29 (fd_r fcX9_valueOf (by decide +kernel))
theorem dX9_valueOf_27 : decode cX9_valueOf 27 = .ok (.aload_n 0, 1) := dq_42 (fd_r fcX9_valueOf (by decide +kernel))
theorem dX9_valueOf_28 : decode cX9_valueOf 28 = .ok (.getfield 22, 3) := dq_180 (a := 0) (b := 22) (fd_r fcX9_valueOf (by decide +kernel)) rfl
theorem dX9_valueOf_31 : decode cX9_valueOf 31 = .ok (.iload 4, 2) := dq_21 (a := 4) (fd_r fcX9_valueOf (by decide +kernel))
theorem dX9_valueOf_33 : decode cX9_valueOf 33 = .ok (.iaload, 1) := dq_46 (fd_r fcX9_valueOf (by decide +kernel))
theorem dX9_valueOf_34 : decode cX9_valueOf 34 = .ok (.idiv, 1) := dq_108 (fd_r fcX9_valueOf (by decide +kernel))
theorem dX9_valueOf_35 : decode cX9_valueOf 35 = .ok (.goto 4, 3) := dq_167 (a := 0) (b := 4) (fd_r fcX9_valueOf (by decide +kernel)) rfl
theorem dX9_valueOf_38 : decode cX9_valueOf 38 = .ok (.iconst 0, 1) := dq_3 (fd_r fcX9_valueOf (by decide +kernel))
theorem dX9_valueOf_39 : decode cX9_valueOf 39 = .ok (.istore_n 3, 1) := dq_62 (fd_r fcX9_valueOf (by decide +kernel))
theorem dX9_valueOf_40 : decode cX9_valueOf 40 = .ok (.iinc 4 (-1), 3) := dq_132 (a := 4) (b := 255) (fd_r fcX9_valueOf (by decide +kernel)) rfl
theorem dX9_valueOf_43 : decode cX9_valueOf 43 = .ok (.goto (-33), 3) := dq_167 (a := 255) (b := 223) (fd_r fcX9_valueOf (by decide +kernel)) rfl
theorem dX9_valueOf_46 : decode cX9_valueOf 46 = .ok (.iload_n 2, 1) := dq_28 (fd_r fcX9_valueOf (by decide +kernel))
theorem dX9_valueOf_47 : decode cX9_valueOf 47 = .ok (.ifCond .lt 31, 3) := dq_155 (a := 0) (b := 31) (fd_r fcX9_valueOf (by decide +kernel)) rfl
theorem dX9_valueOf_50 : decode cX9_valueOf 50 = .ok (.iload_n 2, 1) := dq_28 (fd_r fcX9_valueOf (by decide +kernel))
theorem dX9_valueOf_51 : decode cX9_valueOf 51 = .ok (.aload_n 0, 1) := dq_42 (fd_r fcX9_valueOf (by decide +kernel))
theorem dX9_valueOf_52 : decode cX9_valueOf 52 = .ok (.getfield 39, 3) := dq_180 (a := 0) (b := 39) (fd_r fcX9_valueOf (by decide +kernel)) rfl
theorem dX9_valueOf_55 : decode cX9_valueOf 55 = .ok (.if_icmp .ge 23, 3) := dq_162 (a := 0) (b := 23) (fd_r fcX9_valueOf (by decide +kernel)) rfl
theorem dX9_valueOf_58 : decode cX9_valueOf 58 = .ok (.aload_n 0, 1) := dq_42 (fd_r fcX9_valueOf (by decide +kernel))
theorem dX9_valueOf_59 : decode cX9_valueOf 59 = .ok (.getfield 22, 3) := dq_180 (a := 0) (b := 22) (fd_r fcX9_valueOf (by decide +kernel)) rfl
theorem dX9_valueOf_62 : decode cX9_valueOf 62 = .ok (.iload_n 2, 1) := dq_28 (fd_r fcX9_valueOf (by decide +kernel))
theorem dX9_valueOf_63 : decode cX9_valueOf 63 = .ok (.iaload, 1) := dq_46 (fd_r fcX9_valueOf (by decide +kernel))
theorem dX9_valueOf_64 : decode cX9_valueOf 64 = .ok (.ifCond .le 14, 3) := dq_158 (a := 0) (b := 14) (fd_r fcX9_valueOf (by decide +kernel)) rfl
theorem dX9_valueOf_67 : decode cX9_valueOf 67 = .ok (.iload_n 3, 1) := dq_29 (fd_r fcX9_valueOf (by decide +kernel))
theorem dX9_valueOf_68 : decode cX9_valueOf 68 = .ok (.aload_n 0, 1) := dq_42 (fd_r fcX9_valueOf (by decide +kernel))
theorem dX9_valueOf_69 : decode cX9_valueOf 69 = .ok (.getfield 22, 3) := dq_180 (a := 0) (b := 22) (fd_r fcX9_valueOf (by decide +kernel)) rfl
theorem dX9_valueOf_72 : decode cX9_valueOf 72 = .ok (.iload_n 2, 1) := dq_28 (fd_r fcX9_valueOf (by decide +kernel))
theorem dX9_valueOf_73 : decode cX9_valueOf 73 = .ok (.iaload, 1) := dq_46 (fd_r fcX9_valueOf (by decide +kernel))
theorem dX9_valueOf_74 : decode cX9_valueOf 74 = .ok (.irem, 1) := dq_112 (fd_r fcX9_valueOf (by decide +kernel))
theorem dX9_valueOf_75 : decode cX9_valueOf 75 = .ok (.goto 4, 3) := dq_167 (a := 0) (b := 4) (fd_r fcX9_valueOf (by decide +kernel)) rfl
theorem dX9_valueOf_78 : decode cX9_valueOf 78 = .ok (.iconst 0, 1) := dq_3 (fd_r fcX9_valueOf (by decide +kernel))
theorem dX9_valueOf_79 : decode cX9_valueOf 79 = .ok (.ireturn, 1) := dq_172 (fd_r fcX9_valueOf (by decide +kernel))
theorem dX9_armsOf_0 : decode cX9_armsOf 0 = .ok (.iconst 1, 1) := dq_4 (fd_r fcX9_armsOf (by decide +kernel))
theorem dX9_armsOf_1 : decode cX9_armsOf 1 = .ok (.aload_n 0, 1) := dq_42 (fd_r fcX9_armsOf (by decide +kernel))
theorem dX9_armsOf_2 : decode cX9_armsOf 2 = .ok (.getfield 46, 3) := dq_180 (a := 0) (b := 46) (fd_r fcX9_armsOf (by decide +kernel)) rfl
theorem dX9_armsOf_5 : decode cX9_armsOf 5 = .ok (.ishl, 1) := dq_120 (fd_r fcX9_armsOf (by decide +kernel))
theorem dX9_armsOf_6 : decode cX9_armsOf 6 = .ok (.iconst 1, 1) := dq_4 (fd_r fcX9_armsOf (by decide +kernel))
theorem dX9_armsOf_7 : decode cX9_armsOf 7 = .ok (.isub, 1) := dq_100 (fd_r fcX9_armsOf (by decide +kernel))
theorem dX9_armsOf_8 : decode cX9_armsOf 8 = .ok (.istore_n 2, 1) := dq_61 (fd_r fcX9_armsOf (by decide +kernel))
theorem dX9_armsOf_9 : decode cX9_armsOf 9 = .ok (.iload_n 1, 1) := dq_27 (fd_r fcX9_armsOf (by decide +kernel))
theorem dX9_armsOf_10 : decode cX9_armsOf 10 = .ok (.istore_n 3, 1) := dq_62 (fd_r fcX9_armsOf (by decide +kernel))
theorem dX9_armsOf_11 : decode cX9_armsOf 11 = .ok (.aload_n 0, 1) := dq_42 (fd_r fcX9_armsOf (by decide +kernel))
theorem dX9_armsOf_12 : decode cX9_armsOf 12 = .ok (.getfield 39, 3) := dq_180 (a := 0) (b := 39) (fd_r fcX9_armsOf (by decide +kernel)) rfl
theorem dX9_armsOf_15 : decode cX9_armsOf 15 = .ok (.iconst 1, 1) := dq_4 (fd_r fcX9_armsOf (by decide +kernel))
theorem dX9_armsOf_16 : decode cX9_armsOf 16 = .ok (.isub, 1) := dq_100 (fd_r fcX9_armsOf (by decide +kernel))
theorem dX9_armsOf_17 : decode cX9_armsOf 17 = .ok (.istore 4, 2) := dq_54 (a := 4) (fd_r fcX9_armsOf (by decide +kernel))
theorem dX9_armsOf_19 : decode cX9_armsOf 19 = .ok (.iload 4, 2) := dq_21 (a := 4) (fd_r fcX9_armsOf (by decide +kernel))
theorem dX9_armsOf_21 : decode cX9_armsOf 21 = .ok (.ifCond .lt 40, 3) := dq_155 (a := 0) (b := 40) (fd_r fcX9_armsOf (by decide +kernel)) rfl
theorem dX9_armsOf_24 : decode cX9_armsOf 24 = .ok (.aload_n 0, 1) := dq_42 (fd_r fcX9_armsOf (by decide +kernel))
theorem dX9_armsOf_25 : decode cX9_armsOf 25 = .ok (.getfield 22, 3) := dq_180 (a := 0) (b := 22) (fd_r fcX9_armsOf (by decide +kernel)) rfl
theorem dX9_armsOf_28 : decode cX9_armsOf 28 = .ok (.iload 4, 2) := dq_21 (a := 4) (fd_r fcX9_armsOf (by decide +kernel))
theorem dX9_armsOf_30 : decode cX9_armsOf 30 = .ok (.iaload, 1) := dq_46 (fd_r fcX9_armsOf (by decide +kernel))
theorem dX9_armsOf_31 : decode cX9_armsOf 31 = .ok (.iconst 1, 1) := dq_4 (fd_r fcX9_armsOf (by decide +kernel))
theorem dX9_armsOf_32 : decode cX9_armsOf 32 = .ok (.invokestatic 59, 3) := dq_184 (a := 0) (b := 59) (fd_r fcX9_armsOf (by decide +kernel)) rfl
theorem dX9_armsOf_35 : decode cX9_armsOf 35 = .ok (.istore 5, 2) := dq_54 (a := 5) (fd_r fcX9_armsOf (by decide +kernel))
theorem dX9_armsOf_37 : decode cX9_armsOf 37 = .ok (.iload_n 2, 1) := dq_28 (fd_r fcX9_armsOf (by decide +kernel))
theorem dX9_armsOf_38 : decode cX9_armsOf 38 = .ok (.aload_n 0, 1) := dq_42 (fd_r fcX9_armsOf (by decide +kernel))
theorem dX9_armsOf_39 : decode cX9_armsOf 39 = .ok (.iload 4, 2) := dq_21 (a := 4) (fd_r fcX9_armsOf (by decide +kernel))
theorem dX9_armsOf_41 : decode cX9_armsOf 41 = .ok (.iload_n 3, 1) := dq_29 (fd_r fcX9_armsOf (by decide +kernel))
theorem dX9_armsOf_42 : decode cX9_armsOf 42 = .ok (.iload 5, 2) := dq_21 (a := 5) (fd_r fcX9_armsOf (by decide +kernel))
theorem dX9_armsOf_44 : decode cX9_armsOf 44 = .ok (.irem, 1) := dq_112 (fd_r fcX9_armsOf (by decide +kernel))
theorem dX9_armsOf_45 : decode cX9_armsOf 45 = .ok (.invokevirtual 65, 3) := dq_182 (a := 0) (b := 65) (fd_r fcX9_armsOf (by decide +kernel)) rfl
theorem dX9_armsOf_48 : decode cX9_armsOf 48 = .ok (.iand, 1) := dq_126 (fd_r fcX9_armsOf (by decide +kernel))
theorem dX9_armsOf_49 : decode cX9_armsOf 49 = .ok (.istore_n 2, 1) := dq_61 (fd_r fcX9_armsOf (by decide +kernel))
theorem dX9_armsOf_50 : decode cX9_armsOf 50 = .ok (.iload_n 3, 1) := dq_29 (fd_r fcX9_armsOf (by decide +kernel))
theorem dX9_armsOf_51 : decode cX9_armsOf 51 = .ok (.iload 5, 2) := dq_21 (a := 5) (fd_r fcX9_armsOf (by decide +kernel))
theorem dX9_armsOf_53 : decode cX9_armsOf 53 = .ok (.idiv, 1) := dq_108 (fd_r fcX9_armsOf (by decide +kernel))
theorem dX9_armsOf_54 : decode cX9_armsOf 54 = .ok (.istore_n 3, 1) := dq_62 (fd_r fcX9_armsOf (by decide +kernel))
theorem dX9_armsOf_55 : decode cX9_armsOf 55 = .ok (.iinc 4 (-1), 3) := dq_132 (a := 4) (b := 255) (fd_r fcX9_armsOf (by decide +kernel)) rfl
theorem dX9_armsOf_58 : decode cX9_armsOf 58 = .ok (.goto (-39), 3) := dq_167 (a := 255) (b := 217) (fd_r fcX9_armsOf (by decide +kernel)) rfl
theorem dX9_armsOf_61 : decode cX9_armsOf 61 = .ok (.iload_n 2, 1) := dq_28 (fd_r fcX9_armsOf (by decide +kernel))
theorem dX9_armsOf_62 : decode cX9_armsOf 62 = .ok (.ireturn, 1) := dq_172 (fd_r fcX9_armsOf (by decide +kernel))
theorem dX10_init_0 : decode cX10_init 0 = .ok (.aload_n 0, 1) := dq_42 (fd_r fcX10_init (by decide +kernel))
theorem dX10_init_1 : decode cX10_init 1 = .ok (.invokespecial 3, 3) := dq_183 (a := 0) (b := 3) (fd_r fcX10_init (by decide +kernel)) rfl
theorem dX10_init_4 : decode cX10_init 4 = .ok (.aload_n 0, 1) := dq_42 (fd_r fcX10_init (by decide +kernel))
theorem dX10_init_5 : decode cX10_init 5 = .ok (.iconst 4, 1) := dq_7 (fd_r fcX10_init (by decide +kernel))
theorem dX10_init_6 : decode cX10_init 6 = .ok (.anewarray 9, 3) := dq_189 (a := 0) (b := 9) (fd_r fcX10_init (by decide +kernel)) rfl
theorem dX10_init_9 : decode cX10_init 9 = .ok (.putfield 11, 3) := dq_181 (a := 0) (b := 11) (fd_r fcX10_init (by decide +kernel)) rfl
theorem dX10_init_12 : decode cX10_init 12 = .ok (.aload_n 0, 1) := dq_42 (fd_r fcX10_init (by decide +kernel))
theorem dX10_init_13 : decode cX10_init 13 = .ok (.iconst 4, 1) := dq_7 (fd_r fcX10_init (by decide +kernel))
theorem dX10_init_14 : decode cX10_init 14 = .ok (.anewarray 9, 3) := dq_189 (a := 0) (b := 9) (fd_r fcX10_init (by decide +kernel)) rfl
theorem dX10_init_17 : decode cX10_init 17 = .ok (.putfield 17, 3) := dq_181 (a := 0) (b := 17) (fd_r fcX10_init (by decide +kernel)) rfl
theorem dX10_init_20 : decode cX10_init 20 = .ok (.aload_n 0, 1) := dq_42 (fd_r fcX10_init (by decide +kernel))
theorem dX10_init_21 : decode cX10_init 21 = .ok (.ldc 20, 2) := dq_18 (a := 20) (fd_r fcX10_init (by decide +kernel))
theorem dX10_init_23 : decode cX10_init 23 = .ok (.newarray .long, 2) := by decide +kernel
theorem dX10_init_25 : decode cX10_init 25 = .ok (.putfield 21, 3) := dq_181 (a := 0) (b := 21) (fd_r fcX10_init (by decide +kernel)) rfl
theorem dX10_init_28 : decode cX10_init 28 = .ok (.aload_n 0, 1) := dq_42 (fd_r fcX10_init (by decide +kernel))
theorem dX10_init_29 : decode cX10_init 29 = .ok (.sipush 999, 3) := dq_17 (a := 3) (b := 231) (fd_r fcX10_init (by decide +kernel)) rfl
theorem dX10_init_32 : decode cX10_init 32 = .ok (.newarray .int, 2) := by decide +kernel
theorem dX10_init_34 : decode cX10_init 34 = .ok (.putfield 25, 3) := dq_181 (a := 0) (b := 25) (fd_r fcX10_init (by decide +kernel)) rfl
theorem dX10_init_37 : decode cX10_init 37 = .ok (.aload_n 0, 1) := dq_42 (fd_r fcX10_init (by decide +kernel))
theorem dX10_init_38 : decode cX10_init 38 = .ok (.aload_n 1, 1) := dq_43 (fd_r fcX10_init (by decide +kernel))
theorem dX10_init_39 : decode cX10_init 39 = .ok (.putfield 29, 3) := dq_181 (a := 0) (b := 29) (fd_r fcX10_init (by decide +kernel)) rfl
theorem dX10_init_42 : decode cX10_init 42 = .ok (.aload_n 0, 1) := dq_42 (fd_r fcX10_init (by decide +kernel))
theorem dX10_init_43 : decode cX10_init 43 = .ok (.aload_n 2, 1) := dq_44 (fd_r fcX10_init (by decide +kernel))
theorem dX10_init_44 : decode cX10_init 44 = .ok (.putfield 33, 3) := dq_181 (a := 0) (b := 33) (fd_r fcX10_init (by decide +kernel)) rfl
theorem dX10_init_47 : decode cX10_init 47 = .ok (.aload_n 0, 1) := dq_42 (fd_r fcX10_init (by decide +kernel))
theorem dX10_init_48 : decode cX10_init 48 = .ok (.aload_n 3, 1) := dq_45 (fd_r fcX10_init (by decide +kernel))
theorem dX10_init_49 : decode cX10_init 49 = .ok (.putfield 37, 3) := dq_181 (a := 0) (b := 37) (fd_r fcX10_init (by decide +kernel)) rfl
theorem dX10_init_52 : decode cX10_init 52 = .ok (.iconst 0, 1) := dq_3 (fd_r fcX10_init (by decide +kernel))
theorem dX10_init_53 : decode cX10_init 53 = .ok (.istore 4, 2) := dq_54 (a := 4) (fd_r fcX10_init (by decide +kernel))
theorem dX10_init_55 : decode cX10_init 55 = .ok (.iload 4, 2) := dq_21 (a := 4) (fd_r fcX10_init (by decide +kernel))
theorem dX10_init_57 : decode cX10_init 57 = .ok (.iconst 4, 1) := dq_7 (fd_r fcX10_init (by decide +kernel))
theorem dX10_init_58 : decode cX10_init 58 = .ok (.if_icmp .ge 45, 3) := dq_162 (a := 0) (b := 45) (fd_r fcX10_init (by decide +kernel)) rfl
theorem dX10_init_61 : decode cX10_init 61 = .ok (.aload_n 0, 1) := dq_42 (fd_r fcX10_init (by decide +kernel))
theorem dX10_init_62 : decode cX10_init 62 = .ok (.getfield 11, 3) := dq_180 (a := 0) (b := 11) (fd_r fcX10_init (by decide +kernel)) rfl
theorem dX10_init_65 : decode cX10_init 65 = .ok (.iload 4, 2) := dq_21 (a := 4) (fd_r fcX10_init (by decide +kernel))
theorem dX10_init_67 : decode cX10_init 67 = .ok (.new 9, 3) := dq_187 (a := 0) (b := 9) (fd_r fcX10_init (by decide +kernel)) rfl
theorem dX10_init_70 : decode cX10_init 70 = .ok (.dup, 1) := dq_89 (fd_r fcX10_init (by decide +kernel))
theorem dX10_init_71 : decode cX10_init 71 = .ok (.sipush 2048, 3) := dq_17 (a := 8) (b := 0) (fd_r fcX10_init (by decide +kernel)) rfl
theorem dX10_init_74 : decode cX10_init 74 = .ok (.aload_n 3, 1) := dq_45 (fd_r fcX10_init (by decide +kernel))
theorem dX10_init_75 : decode cX10_init 75 = .ok (.invokespecial 41, 3) := dq_183 (a := 0) (b := 41) (fd_r fcX10_init (by decide +kernel)) rfl
theorem dX10_init_78 : decode cX10_init 78 = .ok (.aastore, 1) := dq_83 (fd_r fcX10_init (by decide +kernel))
theorem dX10_init_79 : decode cX10_init 79 = .ok (.aload_n 0, 1) := dq_42 (fd_r fcX10_init (by decide +kernel))
theorem dX10_init_80 : decode cX10_init 80 = .ok (.getfield 17, 3) := dq_180 (a := 0) (b := 17) (fd_r fcX10_init (by decide +kernel)) rfl
theorem dX10_init_83 : decode cX10_init 83 = .ok (.iload 4, 2) := dq_21 (a := 4) (fd_r fcX10_init (by decide +kernel))
theorem dX10_init_85 : decode cX10_init 85 = .ok (.new 9, 3) := dq_187 (a := 0) (b := 9) (fd_r fcX10_init (by decide +kernel)) rfl
theorem dX10_init_88 : decode cX10_init 88 = .ok (.dup, 1) := dq_89 (fd_r fcX10_init (by decide +kernel))
theorem dX10_init_89 : decode cX10_init 89 = .ok (.sipush 2048, 3) := dq_17 (a := 8) (b := 0) (fd_r fcX10_init (by decide +kernel)) rfl
theorem dX10_init_92 : decode cX10_init 92 = .ok (.aload_n 3, 1) := dq_45 (fd_r fcX10_init (by decide +kernel))
theorem dX10_init_93 : decode cX10_init 93 = .ok (.invokespecial 41, 3) := dq_183 (a := 0) (b := 41) (fd_r fcX10_init (by decide +kernel)) rfl
theorem dX10_init_96 : decode cX10_init 96 = .ok (.aastore, 1) := dq_83 (fd_r fcX10_init (by decide +kernel))
theorem dX10_init_97 : decode cX10_init 97 = .ok (.iinc 4 1, 3) := dq_132 (a := 4) (b := 1) (fd_r fcX10_init (by decide +kernel)) rfl
theorem dX10_init_100 : decode cX10_init 100 = .ok (.goto (-45), 3) := dq_167 (a := 255) (b := 211) (fd_r fcX10_init (by decide +kernel)) rfl
theorem dX10_init_103 : decode cX10_init 103 = .ok (.return_, 1) := dq_177 (fd_r fcX10_init (by decide +kernel))
theorem dX10_setTable_0 : decode cX10_setTable 0 = .ok (.aload_n 0, 1) := dq_42 (fd_r fcX10_setTable (by decide +kernel))
theorem dX10_setTable_1 : decode cX10_setTable 1 = .ok (.aload_n 1, 1) := dq_43 (fd_r fcX10_setTable (by decide +kernel))
theorem dX10_setTable_2 : decode cX10_setTable 2 = .ok (.putfield 29, 3) := dq_181 (a := 0) (b := 29) (fd_r fcX10_setTable (by decide +kernel)) rfl
theorem dX10_setTable_5 : decode cX10_setTable 5 = .ok (.iconst 0, 1) := dq_3 (fd_r fcX10_setTable (by decide +kernel))
theorem dX10_setTable_6 : decode cX10_setTable 6 = .ok (.istore_n 2, 1) := dq_61 (fd_r fcX10_setTable (by decide +kernel))
theorem dX10_setTable_7 : decode cX10_setTable 7 = .ok (.iload_n 2, 1) := dq_28 (fd_r fcX10_setTable (by decide +kernel))
theorem dX10_setTable_8 : decode cX10_setTable 8 = .ok (.aload_n 0, 1) := dq_42 (fd_r fcX10_setTable (by decide +kernel))
theorem dX10_setTable_9 : decode cX10_setTable 9 = .ok (.getfield 29, 3) := dq_180 (a := 0) (b := 29) (fd_r fcX10_setTable (by decide +kernel)) rfl
theorem dX10_setTable_12 : decode cX10_setTable 12 = .ok (.getfield 44, 3) := dq_180 (a := 0) (b := 44) (fd_r fcX10_setTable (by decide +kernel)) rfl
theorem dX10_setTable_15 : decode cX10_setTable 15 = .ok (.if_icmp .ge 63, 3) := dq_162 (a := 0) (b := 63) (fd_r fcX10_setTable (by decide +kernel)) rfl
theorem dX10_setTable_18 : decode cX10_setTable 18 = .ok (.iload_n 2, 1) := dq_28 (fd_r fcX10_setTable (by decide +kernel))
theorem dX10_setTable_19 : decode cX10_setTable 19 = .ok (.iconst 4, 1) := dq_7 (fd_r fcX10_setTable (by decide +kernel))
theorem dX10_setTable_20 : decode cX10_setTable 20 = .ok (.if_icmp .ge 58, 3) := dq_162 (a := 0) (b := 58) (fd_r fcX10_setTable (by decide +kernel)) rfl
theorem dX10_setTable_23 : decode cX10_setTable 23 = .ok (.aload_n 0, 1) := dq_42 (fd_r fcX10_setTable (by decide +kernel))
theorem dX10_setTable_24 : decode cX10_setTable 24 = .ok (.getfield 11, 3) := dq_180 (a := 0) (b := 11) (fd_r fcX10_setTable (by decide +kernel)) rfl
theorem dX10_setTable_27 : decode cX10_setTable 27 = .ok (.iload_n 2, 1) := dq_28 (fd_r fcX10_setTable (by decide +kernel))
theorem dX10_setTable_28 : decode cX10_setTable 28 = .ok (.aaload, 1) := dq_50 (fd_r fcX10_setTable (by decide +kernel))
theorem dX10_setTable_29 : decode cX10_setTable 29 = .ok (.invokevirtual 50, 3) := dq_182 (a := 0) (b := 50) (fd_r fcX10_setTable (by decide +kernel)) rfl
theorem dX10_setTable_32 : decode cX10_setTable 32 = .ok (.iconst 0, 1) := dq_3 (fd_r fcX10_setTable (by decide +kernel))
theorem dX10_setTable_33 : decode cX10_setTable 33 = .ok (.istore_n 3, 1) := dq_62 (fd_r fcX10_setTable (by decide +kernel))
theorem dX10_setTable_34 : decode cX10_setTable 34 = .ok (.iload_n 3, 1) := dq_29 (fd_r fcX10_setTable (by decide +kernel))
theorem dX10_setTable_35 : decode cX10_setTable 35 = .ok (.aload_n 0, 1) := dq_42 (fd_r fcX10_setTable (by decide +kernel))
theorem dX10_setTable_36 : decode cX10_setTable 36 = .ok (.getfield 29, 3) := dq_180 (a := 0) (b := 29) (fd_r fcX10_setTable (by decide +kernel)) rfl
theorem dX10_setTable_39 : decode cX10_setTable 39 = .ok (.getfield 53, 3) := dq_180 (a := 0) (b := 53) (fd_r fcX10_setTable (by decide +kernel)) rfl
theorem dX10_setTable_42 : decode cX10_setTable 42 = .ok (.iload_n 2, 1) := dq_28 (fd_r fcX10_setTable (by decide +kernel))
theorem dX10_setTable_43 : decode cX10_setTable 43 = .ok (.iaload, 1) := dq_46 (fd_r fcX10_setTable (by decide +kernel))
theorem dX10_setTable_44 : decode cX10_setTable 44 = .ok (.if_icmp .ge 28, 3) := dq_162 (a := 0) (b := 28) (fd_r fcX10_setTable (by decide +kernel)) rfl
theorem dX10_setTable_47 : decode cX10_setTable 47 = .ok (.aload_n 0, 1) := dq_42 (fd_r fcX10_setTable (by decide +kernel))
theorem dX10_setTable_48 : decode cX10_setTable 48 = .ok (.getfield 11, 3) := dq_180 (a := 0) (b := 11) (fd_r fcX10_setTable (by decide +kernel)) rfl
theorem dX10_setTable_51 : decode cX10_setTable 51 = .ok (.iload_n 2, 1) := dq_28 (fd_r fcX10_setTable (by decide +kernel))
theorem dX10_setTable_52 : decode cX10_setTable 52 = .ok (.aaload, 1) := dq_50 (fd_r fcX10_setTable (by decide +kernel))
theorem dX10_setTable_53 : decode cX10_setTable 53 = .ok (.aload_n 0, 1) := dq_42 (fd_r fcX10_setTable (by decide +kernel))
theorem dX10_setTable_54 : decode cX10_setTable 54 = .ok (.getfield 29, 3) := dq_180 (a := 0) (b := 29) (fd_r fcX10_setTable (by decide +kernel)) rfl
end
section
theorem dX10_setTable_57 : decode cX10_setTable 57 = .ok (.iload_n 2, 1) := dq_28 (fd_r fcX10_setTable (by decide +kernel))
theorem dX10_setTable_58 : decode cX10_setTable 58 = .ok (.iload_n 3, 1) := dq_29 (fd_r fcX10_setTable (by decide +kernel))
theorem dX10_setTable_59 : decode cX10_setTable 59 = .ok (.invokevirtual 56, 3) := dq_182 (a := 0) (b := 56) (fd_r fcX10_setTable (by decide +kernel)) rfl
theorem dX10_setTable_62 : decode cX10_setTable 62 = .ok (.iconst 1, 1) := dq_4 (fd_r fcX10_setTable (by decide +kernel))
theorem dX10_setTable_63 : decode cX10_setTable 63 = .ok (.invokevirtual 60, 3) := dq_182 (a := 0) (b := 60) (fd_r fcX10_setTable (by decide +kernel)) rfl
theorem dX10_setTable_66 : decode cX10_setTable 66 = .ok (.iinc 3 1, 3) := dq_132 (a := 3) (b := 1) (fd_r fcX10_setTable (by decide +kernel)) rfl
theorem dX10_setTable_69 : decode cX10_setTable 69 = .ok (.goto (-35), 3) := dq_167 (a := 255) (b := 221) (fd_r fcX10_setTable (by decide +kernel)) rfl
theorem dX10_setTable_72 : decode cX10_setTable 72 = .ok (.iinc 2 1, 3) := dq_132 (a := 2) (b := 1) (fd_r fcX10_setTable (by decide +kernel)) rfl
theorem dX10_setTable_75 : decode cX10_setTable 75 = .ok (.goto (-68), 3) := dq_167 (a := 255) (b := 188) (fd_r fcX10_setTable (by decide +kernel)) rfl
theorem dX10_setTable_78 : decode cX10_setTable 78 = .ok (.return_, 1) := dq_177 (fd_r fcX10_setTable (by decide +kernel))
theorem dX10_allColumns_0 : decode cX10_allColumns 0 = .ok (.iconst 1, 1) := dq_4 (fd_r fcX10_allColumns (by decide +kernel))
theorem dX10_allColumns_1 : decode cX10_allColumns 1 = .ok (.aload_n 0, 1) := dq_42 (fd_r fcX10_allColumns (by decide +kernel))
theorem dX10_allColumns_2 : decode cX10_allColumns 2 = .ok (.getfield 29, 3) := dq_180 (a := 0) (b := 29) (fd_r fcX10_allColumns (by decide +kernel)) rfl
theorem dX10_allColumns_5 : decode cX10_allColumns 5 = .ok (.getfield 44, 3) := dq_180 (a := 0) (b := 44) (fd_r fcX10_allColumns (by decide +kernel)) rfl
theorem dX10_allColumns_8 : decode cX10_allColumns 8 = .ok (.ishl, 1) := dq_120 (fd_r fcX10_allColumns (by decide +kernel))
theorem dX10_allColumns_9 : decode cX10_allColumns 9 = .ok (.iconst 1, 1) := dq_4 (fd_r fcX10_allColumns (by decide +kernel))
theorem dX10_allColumns_10 : decode cX10_allColumns 10 = .ok (.isub, 1) := dq_100 (fd_r fcX10_allColumns (by decide +kernel))
theorem dX10_allColumns_11 : decode cX10_allColumns 11 = .ok (.ireturn, 1) := dq_172 (fd_r fcX10_allColumns (by decide +kernel))
theorem dX10_columnAsked_0 : decode cX10_columnAsked 0 = .ok (.aload_n 0, 1) := dq_42 (fd_r fcX10_columnAsked (by decide +kernel))
theorem dX10_columnAsked_1 : decode cX10_columnAsked 1 = .ok (.getfield 33, 3) := dq_180 (a := 0) (b := 33) (fd_r fcX10_columnAsked (by decide +kernel)) rfl
theorem dX10_columnAsked_4 : decode cX10_columnAsked 4 = .ok (.iload_n 1, 1) := dq_27 (fd_r fcX10_columnAsked (by decide +kernel))
theorem dX10_columnAsked_5 : decode cX10_columnAsked 5 = .ok (.invokevirtual 64, 3) := dq_182 (a := 0) (b := 64) (fd_r fcX10_columnAsked (by decide +kernel)) rfl
theorem dX10_columnAsked_8 : decode cX10_columnAsked 8 = .ok (.istore_n 3, 1) := dq_62 (fd_r fcX10_columnAsked (by decide +kernel))
theorem dX10_columnAsked_9 : decode cX10_columnAsked 9 = .ok (.iconst (-1), 1) := dq_2 (fd_r fcX10_columnAsked (by decide +kernel))
theorem dX10_columnAsked_10 : decode cX10_columnAsked 10 = .ok (.istore 4, 2) := dq_54 (a := 4) (fd_r fcX10_columnAsked (by decide +kernel))
theorem dX10_columnAsked_12 : decode cX10_columnAsked 12 = .ok (.iconst 0, 1) := dq_3 (fd_r fcX10_columnAsked (by decide +kernel))
theorem dX10_columnAsked_13 : decode cX10_columnAsked 13 = .ok (.istore 5, 2) := dq_54 (a := 5) (fd_r fcX10_columnAsked (by decide +kernel))
theorem dX10_columnAsked_15 : decode cX10_columnAsked 15 = .ok (.iconst 0, 1) := dq_3 (fd_r fcX10_columnAsked (by decide +kernel))
theorem dX10_columnAsked_16 : decode cX10_columnAsked 16 = .ok (.istore 6, 2) := dq_54 (a := 6) (fd_r fcX10_columnAsked (by decide +kernel))
theorem dX10_columnAsked_18 : decode cX10_columnAsked 18 = .ok (.iload_n 3, 1) := dq_29 (fd_r fcX10_columnAsked (by decide +kernel))
theorem dX10_columnAsked_19 : decode cX10_columnAsked 19 = .ok (.iconst (-1), 1) := dq_2 (fd_r fcX10_columnAsked (by decide +kernel))
theorem dX10_columnAsked_20 : decode cX10_columnAsked 20 = .ok (.if_icmp .eq 77, 3) := dq_159 (a := 0) (b := 77) (fd_r fcX10_columnAsked (by decide +kernel)) rfl
theorem dX10_columnAsked_23 : decode cX10_columnAsked 23 = .ok (.iload 6, 2) := dq_21 (a := 6) (fd_r fcX10_columnAsked (by decide +kernel))
theorem dX10_columnAsked_25 : decode cX10_columnAsked 25 = .ok (.aload_n 0, 1) := dq_42 (fd_r fcX10_columnAsked (by decide +kernel))
theorem dX10_columnAsked_26 : decode cX10_columnAsked 26 = .ok (.getfield 29, 3) := dq_180 (a := 0) (b := 29) (fd_r fcX10_columnAsked (by decide +kernel)) rfl
theorem dX10_columnAsked_29 : decode cX10_columnAsked 29 = .ok (.getfield 44, 3) := dq_180 (a := 0) (b := 44) (fd_r fcX10_columnAsked (by decide +kernel)) rfl
theorem dX10_columnAsked_32 : decode cX10_columnAsked 32 = .ok (.if_icmp .ge 65, 3) := dq_162 (a := 0) (b := 65) (fd_r fcX10_columnAsked (by decide +kernel)) rfl
theorem dX10_columnAsked_35 : decode cX10_columnAsked 35 = .ok (.iload_n 2, 1) := dq_28 (fd_r fcX10_columnAsked (by decide +kernel))
theorem dX10_columnAsked_36 : decode cX10_columnAsked 36 = .ok (.iload 6, 2) := dq_21 (a := 6) (fd_r fcX10_columnAsked (by decide +kernel))
theorem dX10_columnAsked_38 : decode cX10_columnAsked 38 = .ok (.invokestatic 70, 3) := dq_184 (a := 0) (b := 70) (fd_r fcX10_columnAsked (by decide +kernel)) rfl
theorem dX10_columnAsked_41 : decode cX10_columnAsked 41 = .ok (.ifCond .eq 50, 3) := dq_153 (a := 0) (b := 50) (fd_r fcX10_columnAsked (by decide +kernel)) rfl
theorem dX10_columnAsked_44 : decode cX10_columnAsked 44 = .ok (.aload_n 0, 1) := dq_42 (fd_r fcX10_columnAsked (by decide +kernel))
theorem dX10_columnAsked_45 : decode cX10_columnAsked 45 = .ok (.getfield 29, 3) := dq_180 (a := 0) (b := 29) (fd_r fcX10_columnAsked (by decide +kernel)) rfl
theorem dX10_columnAsked_48 : decode cX10_columnAsked 48 = .ok (.getfield 74, 3) := dq_180 (a := 0) (b := 74) (fd_r fcX10_columnAsked (by decide +kernel)) rfl
theorem dX10_columnAsked_51 : decode cX10_columnAsked 51 = .ok (.iload 6, 2) := dq_21 (a := 6) (fd_r fcX10_columnAsked (by decide +kernel))
theorem dX10_columnAsked_53 : decode cX10_columnAsked 53 = .ok (.iaload, 1) := dq_46 (fd_r fcX10_columnAsked (by decide +kernel))
theorem dX10_columnAsked_54 : decode cX10_columnAsked 54 = .ok (.iload_n 3, 1) := dq_29 (fd_r fcX10_columnAsked (by decide +kernel))
theorem dX10_columnAsked_55 : decode cX10_columnAsked 55 = .ok (.invokestatic 70, 3) := dq_184 (a := 0) (b := 70) (fd_r fcX10_columnAsked (by decide +kernel)) rfl
theorem dX10_columnAsked_58 : decode cX10_columnAsked 58 = .ok (.ifCond .ne 33, 3) := dq_154 (a := 0) (b := 33) (fd_r fcX10_columnAsked (by decide +kernel)) rfl
theorem dX10_columnAsked_61 : decode cX10_columnAsked 61 = .ok (.aload_n 0, 1) := dq_42 (fd_r fcX10_columnAsked (by decide +kernel))
theorem dX10_columnAsked_62 : decode cX10_columnAsked 62 = .ok (.iload_n 1, 1) := dq_27 (fd_r fcX10_columnAsked (by decide +kernel))
theorem dX10_columnAsked_63 : decode cX10_columnAsked 63 = .ok (.iload 6, 2) := dq_21 (a := 6) (fd_r fcX10_columnAsked (by decide +kernel))
theorem dX10_columnAsked_65 : decode cX10_columnAsked 65 = .ok (.invokevirtual 77, 3) := dq_182 (a := 0) (b := 77) (fd_r fcX10_columnAsked (by decide +kernel)) rfl
theorem dX10_columnAsked_68 : decode cX10_columnAsked 68 = .ok (.istore 7, 2) := dq_54 (a := 7) (fd_r fcX10_columnAsked (by decide +kernel))
theorem dX10_columnAsked_70 : decode cX10_columnAsked 70 = .ok (.iload 4, 2) := dq_21 (a := 4) (fd_r fcX10_columnAsked (by decide +kernel))
theorem dX10_columnAsked_72 : decode cX10_columnAsked 72 = .ok (.iconst (-1), 1) := dq_2 (fd_r fcX10_columnAsked (by decide +kernel))
theorem dX10_columnAsked_73 : decode cX10_columnAsked 73 = .ok (.if_icmp .eq 10, 3) := dq_159 (a := 0) (b := 10) (fd_r fcX10_columnAsked (by decide +kernel)) rfl
theorem dX10_columnAsked_76 : decode cX10_columnAsked 76 = .ok (.iload 7, 2) := dq_21 (a := 7) (fd_r fcX10_columnAsked (by decide +kernel))
theorem dX10_columnAsked_78 : decode cX10_columnAsked 78 = .ok (.iload 5, 2) := dq_21 (a := 5) (fd_r fcX10_columnAsked (by decide +kernel))
theorem dX10_columnAsked_80 : decode cX10_columnAsked 80 = .ok (.if_icmp .ge 11, 3) := dq_162 (a := 0) (b := 11) (fd_r fcX10_columnAsked (by decide +kernel)) rfl
theorem dX10_columnAsked_83 : decode cX10_columnAsked 83 = .ok (.iload 6, 2) := dq_21 (a := 6) (fd_r fcX10_columnAsked (by decide +kernel))
theorem dX10_columnAsked_85 : decode cX10_columnAsked 85 = .ok (.istore 4, 2) := dq_54 (a := 4) (fd_r fcX10_columnAsked (by decide +kernel))
theorem dX10_columnAsked_87 : decode cX10_columnAsked 87 = .ok (.iload 7, 2) := dq_21 (a := 7) (fd_r fcX10_columnAsked (by decide +kernel))
theorem dX10_columnAsked_89 : decode cX10_columnAsked 89 = .ok (.istore 5, 2) := dq_54 (a := 5) (fd_r fcX10_columnAsked (by decide +kernel))
theorem dX10_columnAsked_91 : decode cX10_columnAsked 91 = .ok (.iinc 6 1, 3) := dq_132 (a := 6) (b := 1) (fd_r fcX10_columnAsked (by decide +kernel)) rfl
theorem dX10_columnAsked_94 : decode cX10_columnAsked 94 = .ok (.goto (-76), 3) := dq_167 (a := 255) (b := 180) (fd_r fcX10_columnAsked (by decide +kernel)) rfl
theorem dX10_columnAsked_97 : decode cX10_columnAsked 97 = .ok (.iload 4, 2) := dq_21 (a := 4) (fd_r fcX10_columnAsked (by decide +kernel))
theorem dX10_columnAsked_99 : decode cX10_columnAsked 99 = .ok (.ireturn, 1) := dq_172 (fd_r fcX10_columnAsked (by decide +kernel))
theorem dX10_costOf_0 : decode cX10_costOf 0 = .ok (.aload_n 0, 1) := dq_42 (fd_r fcX10_costOf (by decide +kernel))
theorem dX10_costOf_1 : decode cX10_costOf 1 = .ok (.getfield 80, 3) := dq_180 (a := 0) (b := 80) (fd_r fcX10_costOf (by decide +kernel)) rfl
theorem dX10_costOf_4 : decode cX10_costOf 4 = .ok (.tableswitch 50 1 3 #[28, 36, 43], 28) := by decide +kernel
theorem dX10_costOf_32 : decode cX10_costOf 32 = .ok (.aload_n 0, 1) := dq_42 (fd_r fcX10_costOf (by decide +kernel))
theorem dX10_costOf_33 : decode cX10_costOf 33 = .ok (.iload_n 1, 1) := dq_27 (fd_r fcX10_costOf (by decide +kernel))
theorem dX10_costOf_34 : decode cX10_costOf 34 = .ok (.iload_n 2, 1) := dq_28 (fd_r fcX10_costOf (by decide +kernel))
theorem dX10_costOf_35 : decode cX10_costOf 35 = .ok (.invokevirtual 83, 3) := dq_182 (a := 0) (b := 83) (fd_r fcX10_costOf (by decide +kernel)) rfl
theorem dX10_costOf_38 : decode cX10_costOf 38 = .ok (.ineg, 1) := dq_116 (fd_r fcX10_costOf (by decide +kernel))
theorem dX10_costOf_39 : decode cX10_costOf 39 = .ok (.ireturn, 1) := dq_172 (fd_r fcX10_costOf (by decide +kernel))
theorem dX10_costOf_40 : decode cX10_costOf 40 = .ok (.aload_n 0, 1) := dq_42 (fd_r fcX10_costOf (by decide +kernel))
theorem dX10_costOf_41 : decode cX10_costOf 41 = .ok (.iload_n 1, 1) := dq_27 (fd_r fcX10_costOf (by decide +kernel))
theorem dX10_costOf_42 : decode cX10_costOf 42 = .ok (.iload_n 2, 1) := dq_28 (fd_r fcX10_costOf (by decide +kernel))
theorem dX10_costOf_43 : decode cX10_costOf 43 = .ok (.invokevirtual 86, 3) := dq_182 (a := 0) (b := 86) (fd_r fcX10_costOf (by decide +kernel)) rfl
theorem dX10_costOf_46 : decode cX10_costOf 46 = .ok (.ireturn, 1) := dq_172 (fd_r fcX10_costOf (by decide +kernel))
theorem dX10_costOf_47 : decode cX10_costOf 47 = .ok (.aload_n 0, 1) := dq_42 (fd_r fcX10_costOf (by decide +kernel))
theorem dX10_costOf_48 : decode cX10_costOf 48 = .ok (.iload_n 1, 1) := dq_27 (fd_r fcX10_costOf (by decide +kernel))
theorem dX10_costOf_49 : decode cX10_costOf 49 = .ok (.iload_n 2, 1) := dq_28 (fd_r fcX10_costOf (by decide +kernel))
theorem dX10_costOf_50 : decode cX10_costOf 50 = .ok (.invokevirtual 89, 3) := dq_182 (a := 0) (b := 89) (fd_r fcX10_costOf (by decide +kernel)) rfl
theorem dX10_costOf_53 : decode cX10_costOf 53 = .ok (.ireturn, 1) := dq_172 (fd_r fcX10_costOf (by decide +kernel))
theorem dX10_costOf_54 : decode cX10_costOf 54 = .ok (.iconst 0, 1) := dq_3 (fd_r fcX10_costOf (by decide +kernel))
theorem dX10_costOf_55 : decode cX10_costOf 55 = .ok (.ireturn, 1) := dq_172 (fd_r fcX10_costOf (by decide +kernel))
theorem dX10_notFullInRow_0 : decode cX10_notFullInRow 0 = .ok (.iconst 0, 1) := dq_3 (fd_r fcX10_notFullInRow (by decide +kernel))
theorem dX10_notFullInRow_1 : decode cX10_notFullInRow 1 = .ok (.istore_n 3, 1) := dq_62 (fd_r fcX10_notFullInRow (by decide +kernel))
theorem dX10_notFullInRow_2 : decode cX10_notFullInRow 2 = .ok (.iconst 0, 1) := dq_3 (fd_r fcX10_notFullInRow (by decide +kernel))
theorem dX10_notFullInRow_3 : decode cX10_notFullInRow 3 = .ok (.istore 4, 2) := dq_54 (a := 4) (fd_r fcX10_notFullInRow (by decide +kernel))
theorem dX10_notFullInRow_5 : decode cX10_notFullInRow 5 = .ok (.iload 4, 2) := dq_21 (a := 4) (fd_r fcX10_notFullInRow (by decide +kernel))
theorem dX10_notFullInRow_7 : decode cX10_notFullInRow 7 = .ok (.aload_n 0, 1) := dq_42 (fd_r fcX10_notFullInRow (by decide +kernel))
theorem dX10_notFullInRow_8 : decode cX10_notFullInRow 8 = .ok (.getfield 33, 3) := dq_180 (a := 0) (b := 33) (fd_r fcX10_notFullInRow (by decide +kernel)) rfl
theorem dX10_notFullInRow_11 : decode cX10_notFullInRow 11 = .ok (.getfield 92, 3) := dq_180 (a := 0) (b := 92) (fd_r fcX10_notFullInRow (by decide +kernel)) rfl
theorem dX10_notFullInRow_14 : decode cX10_notFullInRow 14 = .ok (.if_icmp .ge 52, 3) := dq_162 (a := 0) (b := 52) (fd_r fcX10_notFullInRow (by decide +kernel)) rfl
theorem dX10_notFullInRow_17 : decode cX10_notFullInRow 17 = .ok (.aload_n 0, 1) := dq_42 (fd_r fcX10_notFullInRow (by decide +kernel))
theorem dX10_notFullInRow_18 : decode cX10_notFullInRow 18 = .ok (.getfield 33, 3) := dq_180 (a := 0) (b := 33) (fd_r fcX10_notFullInRow (by decide +kernel)) rfl
theorem dX10_notFullInRow_21 : decode cX10_notFullInRow 21 = .ok (.getfield 95, 3) := dq_180 (a := 0) (b := 95) (fd_r fcX10_notFullInRow (by decide +kernel)) rfl
theorem dX10_notFullInRow_24 : decode cX10_notFullInRow 24 = .ok (.iload 4, 2) := dq_21 (a := 4) (fd_r fcX10_notFullInRow (by decide +kernel))
theorem dX10_notFullInRow_26 : decode cX10_notFullInRow 26 = .ok (.iaload, 1) := dq_46 (fd_r fcX10_notFullInRow (by decide +kernel))
theorem dX10_notFullInRow_27 : decode cX10_notFullInRow 27 = .ok (.istore 5, 2) := dq_54 (a := 5) (fd_r fcX10_notFullInRow (by decide +kernel))
theorem dX10_notFullInRow_29 : decode cX10_notFullInRow 29 = .ok (.iload_n 1, 1) := dq_27 (fd_r fcX10_notFullInRow (by decide +kernel))
theorem dX10_notFullInRow_30 : decode cX10_notFullInRow 30 = .ok (.iload 5, 2) := dq_21 (a := 5) (fd_r fcX10_notFullInRow (by decide +kernel))
theorem dX10_notFullInRow_32 : decode cX10_notFullInRow 32 = .ok (.invokestatic 70, 3) := dq_184 (a := 0) (b := 70) (fd_r fcX10_notFullInRow (by decide +kernel)) rfl
theorem dX10_notFullInRow_35 : decode cX10_notFullInRow 35 = .ok (.ifCond .eq 25, 3) := dq_153 (a := 0) (b := 25) (fd_r fcX10_notFullInRow (by decide +kernel)) rfl
theorem dX10_notFullInRow_38 : decode cX10_notFullInRow 38 = .ok (.aload_n 0, 1) := dq_42 (fd_r fcX10_notFullInRow (by decide +kernel))
theorem dX10_notFullInRow_39 : decode cX10_notFullInRow 39 = .ok (.getfield 29, 3) := dq_180 (a := 0) (b := 29) (fd_r fcX10_notFullInRow (by decide +kernel)) rfl
theorem dX10_notFullInRow_42 : decode cX10_notFullInRow 42 = .ok (.getfield 74, 3) := dq_180 (a := 0) (b := 74) (fd_r fcX10_notFullInRow (by decide +kernel)) rfl
theorem dX10_notFullInRow_45 : decode cX10_notFullInRow 45 = .ok (.iload_n 2, 1) := dq_28 (fd_r fcX10_notFullInRow (by decide +kernel))
theorem dX10_notFullInRow_46 : decode cX10_notFullInRow 46 = .ok (.iaload, 1) := dq_46 (fd_r fcX10_notFullInRow (by decide +kernel))
theorem dX10_notFullInRow_47 : decode cX10_notFullInRow 47 = .ok (.iload 5, 2) := dq_21 (a := 5) (fd_r fcX10_notFullInRow (by decide +kernel))
theorem dX10_notFullInRow_49 : decode cX10_notFullInRow 49 = .ok (.invokestatic 70, 3) := dq_184 (a := 0) (b := 70) (fd_r fcX10_notFullInRow (by decide +kernel)) rfl
theorem dX10_notFullInRow_52 : decode cX10_notFullInRow 52 = .ok (.ifCond .eq 5, 3) := dq_153 (a := 0) (b := 5) (fd_r fcX10_notFullInRow (by decide +kernel)) rfl
theorem dX10_notFullInRow_55 : decode cX10_notFullInRow 55 = .ok (.iload_n 3, 1) := dq_29 (fd_r fcX10_notFullInRow (by decide +kernel))
theorem dX10_notFullInRow_56 : decode cX10_notFullInRow 56 = .ok (.ireturn, 1) := dq_172 (fd_r fcX10_notFullInRow (by decide +kernel))
theorem dX10_notFullInRow_57 : decode cX10_notFullInRow 57 = .ok (.iinc 3 1, 3) := dq_132 (a := 3) (b := 1) (fd_r fcX10_notFullInRow (by decide +kernel)) rfl
theorem dX10_notFullInRow_60 : decode cX10_notFullInRow 60 = .ok (.iinc 4 1, 3) := dq_132 (a := 4) (b := 1) (fd_r fcX10_notFullInRow (by decide +kernel)) rfl
theorem dX10_notFullInRow_63 : decode cX10_notFullInRow 63 = .ok (.goto (-58), 3) := dq_167 (a := 255) (b := 198) (fd_r fcX10_notFullInRow (by decide +kernel)) rfl
theorem dX10_notFullInRow_66 : decode cX10_notFullInRow 66 = .ok (.iload_n 3, 1) := dq_29 (fd_r fcX10_notFullInRow (by decide +kernel))
theorem dX10_notFullInRow_67 : decode cX10_notFullInRow 67 = .ok (.ireturn, 1) := dq_172 (fd_r fcX10_notFullInRow (by decide +kernel))
theorem dX10_countBranches_0 : decode cX10_countBranches 0 = .ok (.iconst 0, 1) := dq_3 (fd_r fcX10_countBranches (by decide +kernel))
theorem dX10_countBranches_1 : decode cX10_countBranches 1 = .ok (.istore_n 3, 1) := dq_62 (fd_r fcX10_countBranches (by decide +kernel))
theorem dX10_countBranches_2 : decode cX10_countBranches 2 = .ok (.aload_n 0, 1) := dq_42 (fd_r fcX10_countBranches (by decide +kernel))
theorem dX10_countBranches_3 : decode cX10_countBranches 3 = .ok (.getfield 37, 3) := dq_180 (a := 0) (b := 37) (fd_r fcX10_countBranches (by decide +kernel)) rfl
theorem dX10_countBranches_6 : decode cX10_countBranches 6 = .ok (.invokevirtual 98, 3) := dq_182 (a := 0) (b := 98) (fd_r fcX10_countBranches (by decide +kernel)) rfl
theorem dX10_countBranches_9 : decode cX10_countBranches 9 = .ok (.iconst 0, 1) := dq_3 (fd_r fcX10_countBranches (by decide +kernel))
theorem dX10_countBranches_10 : decode cX10_countBranches 10 = .ok (.istore 4, 2) := dq_54 (a := 4) (fd_r fcX10_countBranches (by decide +kernel))
theorem dX10_countBranches_12 : decode cX10_countBranches 12 = .ok (.iload 4, 2) := dq_21 (a := 4) (fd_r fcX10_countBranches (by decide +kernel))
theorem dX10_countBranches_14 : decode cX10_countBranches 14 = .ok (.aload_n 0, 1) := dq_42 (fd_r fcX10_countBranches (by decide +kernel))
theorem dX10_countBranches_15 : decode cX10_countBranches 15 = .ok (.getfield 11, 3) := dq_180 (a := 0) (b := 11) (fd_r fcX10_countBranches (by decide +kernel)) rfl
theorem dX10_countBranches_18 : decode cX10_countBranches 18 = .ok (.iload_n 2, 1) := dq_28 (fd_r fcX10_countBranches (by decide +kernel))
theorem dX10_countBranches_19 : decode cX10_countBranches 19 = .ok (.aaload, 1) := dq_50 (fd_r fcX10_countBranches (by decide +kernel))
theorem dX10_countBranches_20 : decode cX10_countBranches 20 = .ok (.getfield 103, 3) := dq_180 (a := 0) (b := 103) (fd_r fcX10_countBranches (by decide +kernel)) rfl
theorem dX10_countBranches_23 : decode cX10_countBranches 23 = .ok (.if_icmp .ge 36, 3) := dq_162 (a := 0) (b := 36) (fd_r fcX10_countBranches (by decide +kernel)) rfl
theorem dX10_countBranches_26 : decode cX10_countBranches 26 = .ok (.aload_n 0, 1) := dq_42 (fd_r fcX10_countBranches (by decide +kernel))
theorem dX10_countBranches_27 : decode cX10_countBranches 27 = .ok (.getfield 37, 3) := dq_180 (a := 0) (b := 37) (fd_r fcX10_countBranches (by decide +kernel)) rfl
theorem dX10_countBranches_30 : decode cX10_countBranches 30 = .ok (.aload_n 0, 1) := dq_42 (fd_r fcX10_countBranches (by decide +kernel))
theorem dX10_countBranches_31 : decode cX10_countBranches 31 = .ok (.getfield 11, 3) := dq_180 (a := 0) (b := 11) (fd_r fcX10_countBranches (by decide +kernel)) rfl
theorem dX10_countBranches_34 : decode cX10_countBranches 34 = .ok (.iload_n 2, 1) := dq_28 (fd_r fcX10_countBranches (by decide +kernel))
theorem dX10_countBranches_35 : decode cX10_countBranches 35 = .ok (.aaload, 1) := dq_50 (fd_r fcX10_countBranches (by decide +kernel))
theorem dX10_countBranches_36 : decode cX10_countBranches 36 = .ok (.getfield 104, 3) := dq_180 (a := 0) (b := 104) (fd_r fcX10_countBranches (by decide +kernel)) rfl
theorem dX10_countBranches_39 : decode cX10_countBranches 39 = .ok (.iload 4, 2) := dq_21 (a := 4) (fd_r fcX10_countBranches (by decide +kernel))
theorem dX10_countBranches_41 : decode cX10_countBranches 41 = .ok (.iaload, 1) := dq_46 (fd_r fcX10_countBranches (by decide +kernel))
theorem dX10_countBranches_42 : decode cX10_countBranches 42 = .ok (.iload_n 1, 1) := dq_27 (fd_r fcX10_countBranches (by decide +kernel))
theorem dX10_countBranches_43 : decode cX10_countBranches 43 = .ok (.iand, 1) := dq_126 (fd_r fcX10_countBranches (by decide +kernel))
theorem dX10_countBranches_44 : decode cX10_countBranches 44 = .ok (.invokevirtual 107, 3) := dq_182 (a := 0) (b := 107) (fd_r fcX10_countBranches (by decide +kernel)) rfl
theorem dX10_countBranches_47 : decode cX10_countBranches 47 = .ok (.ifCond .eq 6, 3) := dq_153 (a := 0) (b := 6) (fd_r fcX10_countBranches (by decide +kernel)) rfl
theorem dX10_countBranches_50 : decode cX10_countBranches 50 = .ok (.iinc 3 1, 3) := dq_132 (a := 3) (b := 1) (fd_r fcX10_countBranches (by decide +kernel)) rfl
theorem dX10_countBranches_53 : decode cX10_countBranches 53 = .ok (.iinc 4 1, 3) := dq_132 (a := 4) (b := 1) (fd_r fcX10_countBranches (by decide +kernel)) rfl
theorem dX10_countBranches_56 : decode cX10_countBranches 56 = .ok (.goto (-44), 3) := dq_167 (a := 255) (b := 212) (fd_r fcX10_countBranches (by decide +kernel)) rfl
theorem dX10_countBranches_59 : decode cX10_countBranches 59 = .ok (.iload_n 3, 1) := dq_29 (fd_r fcX10_countBranches (by decide +kernel))
theorem dX10_countBranches_60 : decode cX10_countBranches 60 = .ok (.ireturn, 1) := dq_172 (fd_r fcX10_countBranches (by decide +kernel))
theorem dX10_mostArms_0 : decode cX10_mostArms 0 = .ok (.iconst 0, 1) := dq_3 (fd_r fcX10_mostArms (by decide +kernel))
theorem dX10_mostArms_1 : decode cX10_mostArms 1 = .ok (.istore_n 3, 1) := dq_62 (fd_r fcX10_mostArms (by decide +kernel))
theorem dX10_mostArms_2 : decode cX10_mostArms 2 = .ok (.iconst 0, 1) := dq_3 (fd_r fcX10_mostArms (by decide +kernel))
theorem dX10_mostArms_3 : decode cX10_mostArms 3 = .ok (.istore 4, 2) := dq_54 (a := 4) (fd_r fcX10_mostArms (by decide +kernel))
theorem dX10_mostArms_5 : decode cX10_mostArms 5 = .ok (.iload 4, 2) := dq_21 (a := 4) (fd_r fcX10_mostArms (by decide +kernel))
theorem dX10_mostArms_7 : decode cX10_mostArms 7 = .ok (.aload_n 0, 1) := dq_42 (fd_r fcX10_mostArms (by decide +kernel))
theorem dX10_mostArms_8 : decode cX10_mostArms 8 = .ok (.getfield 11, 3) := dq_180 (a := 0) (b := 11) (fd_r fcX10_mostArms (by decide +kernel)) rfl
theorem dX10_mostArms_11 : decode cX10_mostArms 11 = .ok (.iload_n 2, 1) := dq_28 (fd_r fcX10_mostArms (by decide +kernel))
theorem dX10_mostArms_12 : decode cX10_mostArms 12 = .ok (.aaload, 1) := dq_50 (fd_r fcX10_mostArms (by decide +kernel))
theorem dX10_mostArms_13 : decode cX10_mostArms 13 = .ok (.getfield 103, 3) := dq_180 (a := 0) (b := 103) (fd_r fcX10_mostArms (by decide +kernel)) rfl
theorem dX10_mostArms_16 : decode cX10_mostArms 16 = .ok (.if_icmp .ge 31, 3) := dq_162 (a := 0) (b := 31) (fd_r fcX10_mostArms (by decide +kernel)) rfl
theorem dX10_mostArms_19 : decode cX10_mostArms 19 = .ok (.iload_n 3, 1) := dq_29 (fd_r fcX10_mostArms (by decide +kernel))
theorem dX10_mostArms_20 : decode cX10_mostArms 20 = .ok (.aload_n 0, 1) := dq_42 (fd_r fcX10_mostArms (by decide +kernel))
theorem dX10_mostArms_21 : decode cX10_mostArms 21 = .ok (.getfield 11, 3) := dq_180 (a := 0) (b := 11) (fd_r fcX10_mostArms (by decide +kernel)) rfl
theorem dX10_mostArms_24 : decode cX10_mostArms 24 = .ok (.iload_n 2, 1) := dq_28 (fd_r fcX10_mostArms (by decide +kernel))
theorem dX10_mostArms_25 : decode cX10_mostArms 25 = .ok (.aaload, 1) := dq_50 (fd_r fcX10_mostArms (by decide +kernel))
theorem dX10_mostArms_26 : decode cX10_mostArms 26 = .ok (.getfield 104, 3) := dq_180 (a := 0) (b := 104) (fd_r fcX10_mostArms (by decide +kernel)) rfl
theorem dX10_mostArms_29 : decode cX10_mostArms 29 = .ok (.iload 4, 2) := dq_21 (a := 4) (fd_r fcX10_mostArms (by decide +kernel))
theorem dX10_mostArms_31 : decode cX10_mostArms 31 = .ok (.iaload, 1) := dq_46 (fd_r fcX10_mostArms (by decide +kernel))
theorem dX10_mostArms_32 : decode cX10_mostArms 32 = .ok (.iload_n 1, 1) := dq_27 (fd_r fcX10_mostArms (by decide +kernel))
theorem dX10_mostArms_33 : decode cX10_mostArms 33 = .ok (.iand, 1) := dq_126 (fd_r fcX10_mostArms (by decide +kernel))
theorem dX10_mostArms_34 : decode cX10_mostArms 34 = .ok (.invokestatic 111, 3) := dq_184 (a := 0) (b := 111) (fd_r fcX10_mostArms (by decide +kernel)) rfl
theorem dX10_mostArms_37 : decode cX10_mostArms 37 = .ok (.invokestatic 116, 3) := dq_184 (a := 0) (b := 116) (fd_r fcX10_mostArms (by decide +kernel)) rfl
theorem dX10_mostArms_40 : decode cX10_mostArms 40 = .ok (.istore_n 3, 1) := dq_62 (fd_r fcX10_mostArms (by decide +kernel))
theorem dX10_mostArms_41 : decode cX10_mostArms 41 = .ok (.iinc 4 1, 3) := dq_132 (a := 4) (b := 1) (fd_r fcX10_mostArms (by decide +kernel)) rfl
theorem dX10_mostArms_44 : decode cX10_mostArms 44 = .ok (.goto (-39), 3) := dq_167 (a := 255) (b := 217) (fd_r fcX10_mostArms (by decide +kernel)) rfl
theorem dX10_mostArms_47 : decode cX10_mostArms 47 = .ok (.iload_n 3, 1) := dq_29 (fd_r fcX10_mostArms (by decide +kernel))
theorem dX10_mostArms_48 : decode cX10_mostArms 48 = .ok (.ireturn, 1) := dq_172 (fd_r fcX10_mostArms (by decide +kernel))
theorem dX10_split_0 : decode cX10_split 0 = .ok (.iload_n 2, 1) := dq_28 (fd_r fcX10_split (by decide +kernel))
theorem dX10_split_1 : decode cX10_split 1 = .ok (.invokestatic 111, 3) := dq_184 (a := 0) (b := 111) (fd_r fcX10_split (by decide +kernel)) rfl
theorem dX10_split_4 : decode cX10_split 4 = .ok (.iconst 1, 1) := dq_4 (fd_r fcX10_split (by decide +kernel))
theorem dX10_split_5 : decode cX10_split 5 = .ok (.isub, 1) := dq_100 (fd_r fcX10_split (by decide +kernel))
theorem dX10_split_6 : decode cX10_split 6 = .ok (.istore 4, 2) := dq_54 (a := 4) (fd_r fcX10_split (by decide +kernel))
theorem dX10_split_8 : decode cX10_split 8 = .ok (.aload_n 0, 1) := dq_42 (fd_r fcX10_split (by decide +kernel))
theorem dX10_split_9 : decode cX10_split 9 = .ok (.getfield 17, 3) := dq_180 (a := 0) (b := 17) (fd_r fcX10_split (by decide +kernel)) rfl
theorem dX10_split_12 : decode cX10_split 12 = .ok (.iconst 0, 1) := dq_3 (fd_r fcX10_split (by decide +kernel))
theorem dX10_split_13 : decode cX10_split 13 = .ok (.iload 4, 2) := dq_21 (a := 4) (fd_r fcX10_split (by decide +kernel))
theorem dX10_split_15 : decode cX10_split 15 = .ok (.iconst 3, 1) := dq_6 (fd_r fcX10_split (by decide +kernel))
theorem dX10_split_16 : decode cX10_split 16 = .ok (.invokestatic 121, 3) := dq_184 (a := 0) (b := 121) (fd_r fcX10_split (by decide +kernel)) rfl
theorem dX10_split_19 : decode cX10_split 19 = .ok (.invokestatic 116, 3) := dq_184 (a := 0) (b := 116) (fd_r fcX10_split (by decide +kernel)) rfl
theorem dX10_split_22 : decode cX10_split 22 = .ok (.aaload, 1) := dq_50 (fd_r fcX10_split (by decide +kernel))
theorem dX10_split_23 : decode cX10_split 23 = .ok (.astore 5, 2) := dq_58 (a := 5) (fd_r fcX10_split (by decide +kernel))
theorem dX10_split_25 : decode cX10_split 25 = .ok (.aload 5, 2) := dq_25 (a := 5) (fd_r fcX10_split (by decide +kernel))
theorem dX10_split_27 : decode cX10_split 27 = .ok (.invokevirtual 50, 3) := dq_182 (a := 0) (b := 50) (fd_r fcX10_split (by decide +kernel)) rfl
theorem dX10_split_30 : decode cX10_split 30 = .ok (.aload 5, 2) := dq_25 (a := 5) (fd_r fcX10_split (by decide +kernel))
theorem dX10_split_32 : decode cX10_split 32 = .ok (.aload_n 0, 1) := dq_42 (fd_r fcX10_split (by decide +kernel))
theorem dX10_split_33 : decode cX10_split 33 = .ok (.getfield 11, 3) := dq_180 (a := 0) (b := 11) (fd_r fcX10_split (by decide +kernel)) rfl
theorem dX10_split_36 : decode cX10_split 36 = .ok (.iload_n 3, 1) := dq_29 (fd_r fcX10_split (by decide +kernel))
theorem dX10_split_37 : decode cX10_split 37 = .ok (.aaload, 1) := dq_50 (fd_r fcX10_split (by decide +kernel))
theorem dX10_split_38 : decode cX10_split 38 = .ok (.iload_n 1, 1) := dq_27 (fd_r fcX10_split (by decide +kernel))
theorem dX10_split_39 : decode cX10_split 39 = .ok (.invokevirtual 124, 3) := dq_182 (a := 0) (b := 124) (fd_r fcX10_split (by decide +kernel)) rfl
theorem dX10_split_42 : decode cX10_split 42 = .ok (.aload 5, 2) := dq_25 (a := 5) (fd_r fcX10_split (by decide +kernel))
theorem dX10_split_44 : decode cX10_split 44 = .ok (.areturn, 1) := dq_176 (fd_r fcX10_split (by decide +kernel))
theorem dX10_rowsOf_0 : decode cX10_rowsOf 0 = .ok (.iconst 1, 1) := dq_4 (fd_r fcX10_rowsOf (by decide +kernel))
theorem dX10_rowsOf_1 : decode cX10_rowsOf 1 = .ok (.istore_n 2, 1) := dq_61 (fd_r fcX10_rowsOf (by decide +kernel))
theorem dX10_rowsOf_2 : decode cX10_rowsOf 2 = .ok (.iconst 0, 1) := dq_3 (fd_r fcX10_rowsOf (by decide +kernel))
theorem dX10_rowsOf_3 : decode cX10_rowsOf 3 = .ok (.istore_n 3, 1) := dq_62 (fd_r fcX10_rowsOf (by decide +kernel))
theorem dX10_rowsOf_4 : decode cX10_rowsOf 4 = .ok (.iload_n 3, 1) := dq_29 (fd_r fcX10_rowsOf (by decide +kernel))
theorem dX10_rowsOf_5 : decode cX10_rowsOf 5 = .ok (.aload_n 0, 1) := dq_42 (fd_r fcX10_rowsOf (by decide +kernel))
theorem dX10_rowsOf_6 : decode cX10_rowsOf 6 = .ok (.getfield 29, 3) := dq_180 (a := 0) (b := 29) (fd_r fcX10_rowsOf (by decide +kernel)) rfl
theorem dX10_rowsOf_9 : decode cX10_rowsOf 9 = .ok (.getfield 44, 3) := dq_180 (a := 0) (b := 44) (fd_r fcX10_rowsOf (by decide +kernel)) rfl
theorem dX10_rowsOf_12 : decode cX10_rowsOf 12 = .ok (.if_icmp .ge 29, 3) := dq_162 (a := 0) (b := 29) (fd_r fcX10_rowsOf (by decide +kernel)) rfl
theorem dX10_rowsOf_15 : decode cX10_rowsOf 15 = .ok (.iload_n 1, 1) := dq_27 (fd_r fcX10_rowsOf (by decide +kernel))
theorem dX10_rowsOf_16 : decode cX10_rowsOf 16 = .ok (.iload_n 3, 1) := dq_29 (fd_r fcX10_rowsOf (by decide +kernel))
theorem dX10_rowsOf_17 : decode cX10_rowsOf 17 = .ok (.invokestatic 70, 3) := dq_184 (a := 0) (b := 70) (fd_r fcX10_rowsOf (by decide +kernel)) rfl
theorem dX10_rowsOf_20 : decode cX10_rowsOf 20 = .ok (.ifCond .eq 15, 3) := dq_153 (a := 0) (b := 15) (fd_r fcX10_rowsOf (by decide +kernel)) rfl
theorem dX10_rowsOf_23 : decode cX10_rowsOf 23 = .ok (.iload_n 2, 1) := dq_28 (fd_r fcX10_rowsOf (by decide +kernel))
theorem dX10_rowsOf_24 : decode cX10_rowsOf 24 = .ok (.aload_n 0, 1) := dq_42 (fd_r fcX10_rowsOf (by decide +kernel))
theorem dX10_rowsOf_25 : decode cX10_rowsOf 25 = .ok (.getfield 29, 3) := dq_180 (a := 0) (b := 29) (fd_r fcX10_rowsOf (by decide +kernel)) rfl
theorem dX10_rowsOf_28 : decode cX10_rowsOf 28 = .ok (.getfield 53, 3) := dq_180 (a := 0) (b := 53) (fd_r fcX10_rowsOf (by decide +kernel)) rfl
theorem dX10_rowsOf_31 : decode cX10_rowsOf 31 = .ok (.iload_n 3, 1) := dq_29 (fd_r fcX10_rowsOf (by decide +kernel))
theorem dX10_rowsOf_32 : decode cX10_rowsOf 32 = .ok (.iaload, 1) := dq_46 (fd_r fcX10_rowsOf (by decide +kernel))
theorem dX10_rowsOf_33 : decode cX10_rowsOf 33 = .ok (.imul, 1) := dq_104 (fd_r fcX10_rowsOf (by decide +kernel))
theorem dX10_rowsOf_34 : decode cX10_rowsOf 34 = .ok (.istore_n 2, 1) := dq_61 (fd_r fcX10_rowsOf (by decide +kernel))
theorem dX10_rowsOf_35 : decode cX10_rowsOf 35 = .ok (.iinc 3 1, 3) := dq_132 (a := 3) (b := 1) (fd_r fcX10_rowsOf (by decide +kernel)) rfl
theorem dX10_rowsOf_38 : decode cX10_rowsOf 38 = .ok (.goto (-34), 3) := dq_167 (a := 255) (b := 222) (fd_r fcX10_rowsOf (by decide +kernel)) rfl
theorem dX10_rowsOf_41 : decode cX10_rowsOf 41 = .ok (.iload_n 2, 1) := dq_28 (fd_r fcX10_rowsOf (by decide +kernel))
theorem dX10_rowsOf_42 : decode cX10_rowsOf 42 = .ok (.ireturn, 1) := dq_172 (fd_r fcX10_rowsOf (by decide +kernel))
theorem dX10_measureAll_0 : decode cX10_measureAll 0 = .ok (.aload_n 0, 1) := dq_42 (fd_r fcX10_measureAll (by decide +kernel))
theorem dX10_measureAll_1 : decode cX10_measureAll 1 = .ok (.aload_n 1, 1) := dq_43 (fd_r fcX10_measureAll (by decide +kernel))
theorem dX10_measureAll_2 : decode cX10_measureAll 2 = .ok (.putfield 33, 3) := dq_181 (a := 0) (b := 33) (fd_r fcX10_measureAll (by decide +kernel)) rfl
theorem dX10_measureAll_5 : decode cX10_measureAll 5 = .ok (.aload_n 0, 1) := dq_42 (fd_r fcX10_measureAll (by decide +kernel))
theorem dX10_measureAll_6 : decode cX10_measureAll 6 = .ok (.iload_n 2, 1) := dq_28 (fd_r fcX10_measureAll (by decide +kernel))
theorem dX10_measureAll_7 : decode cX10_measureAll 7 = .ok (.putfield 80, 3) := dq_181 (a := 0) (b := 80) (fd_r fcX10_measureAll (by decide +kernel)) rfl
theorem dX10_measureAll_10 : decode cX10_measureAll 10 = .ok (.aload_n 0, 1) := dq_42 (fd_r fcX10_measureAll (by decide +kernel))
theorem dX10_measureAll_11 : decode cX10_measureAll 11 = .ok (.dup, 1) := dq_89 (fd_r fcX10_measureAll (by decide +kernel))
theorem dX10_measureAll_12 : decode cX10_measureAll 12 = .ok (.getfield 128, 3) := dq_180 (a := 0) (b := 128) (fd_r fcX10_measureAll (by decide +kernel)) rfl
theorem dX10_measureAll_15 : decode cX10_measureAll 15 = .ok (.iconst 1, 1) := dq_4 (fd_r fcX10_measureAll (by decide +kernel))
theorem dX10_measureAll_16 : decode cX10_measureAll 16 = .ok (.iadd, 1) := dq_96 (fd_r fcX10_measureAll (by decide +kernel))
theorem dX10_measureAll_17 : decode cX10_measureAll 17 = .ok (.putfield 128, 3) := dq_181 (a := 0) (b := 128) (fd_r fcX10_measureAll (by decide +kernel)) rfl
theorem dX10_measureAll_20 : decode cX10_measureAll 20 = .ok (.aload_n 0, 1) := dq_42 (fd_r fcX10_measureAll (by decide +kernel))
theorem dX10_measureAll_21 : decode cX10_measureAll 21 = .ok (.iconst 0, 1) := dq_3 (fd_r fcX10_measureAll (by decide +kernel))
theorem dX10_measureAll_22 : decode cX10_measureAll 22 = .ok (.putfield 131, 3) := dq_181 (a := 0) (b := 131) (fd_r fcX10_measureAll (by decide +kernel)) rfl
theorem dX10_measureAll_25 : decode cX10_measureAll 25 = .ok (.aload_n 0, 1) := dq_42 (fd_r fcX10_measureAll (by decide +kernel))
theorem dX10_measureAll_26 : decode cX10_measureAll 26 = .ok (.aload_n 0, 1) := dq_42 (fd_r fcX10_measureAll (by decide +kernel))
theorem dX10_measureAll_27 : decode cX10_measureAll 27 = .ok (.getfield 33, 3) := dq_180 (a := 0) (b := 33) (fd_r fcX10_measureAll (by decide +kernel)) rfl
theorem dX10_measureAll_30 : decode cX10_measureAll 30 = .ok (.invokevirtual 134, 3) := dq_182 (a := 0) (b := 134) (fd_r fcX10_measureAll (by decide +kernel)) rfl
theorem dX10_measureAll_33 : decode cX10_measureAll 33 = .ok (.aload_n 0, 1) := dq_42 (fd_r fcX10_measureAll (by decide +kernel))
theorem dX10_measureAll_34 : decode cX10_measureAll 34 = .ok (.invokevirtual 138, 3) := dq_182 (a := 0) (b := 138) (fd_r fcX10_measureAll (by decide +kernel)) rfl
theorem dX10_measureAll_37 : decode cX10_measureAll 37 = .ok (.iconst 0, 1) := dq_3 (fd_r fcX10_measureAll (by decide +kernel))
theorem dX10_measureAll_38 : decode cX10_measureAll 38 = .ok (.invokestatic 141, 3) := dq_184 (a := 0) (b := 141) (fd_r fcX10_measureAll (by decide +kernel)) rfl
theorem dX10_measureAll_41 : decode cX10_measureAll 41 = .ok (.lreturn, 1) := dq_173 (fd_r fcX10_measureAll (by decide +kernel))
theorem dX10_measure_0 : decode cX10_measure 0 = .ok (.iload_n 2, 1) := dq_28 (fd_r fcX10_measure (by decide +kernel))
theorem dX10_measure_1 : decode cX10_measure 1 = .ok (.sipush 4096, 3) := dq_17 (a := 16) (b := 0) (fd_r fcX10_measure (by decide +kernel)) rfl
theorem dX10_measure_4 : decode cX10_measure 4 = .ok (.imul, 1) := dq_104 (fd_r fcX10_measure (by decide +kernel))
theorem dX10_measure_5 : decode cX10_measure 5 = .ok (.iload_n 1, 1) := dq_27 (fd_r fcX10_measure (by decide +kernel))
theorem dX10_measure_6 : decode cX10_measure 6 = .ok (.iadd, 1) := dq_96 (fd_r fcX10_measure (by decide +kernel))
theorem dX10_measure_7 : decode cX10_measure 7 = .ok (.istore 4, 2) := dq_54 (a := 4) (fd_r fcX10_measure (by decide +kernel))
theorem dX10_measure_9 : decode cX10_measure 9 = .ok (.iload 4, 2) := dq_21 (a := 4) (fd_r fcX10_measure (by decide +kernel))
theorem dX10_measure_11 : decode cX10_measure 11 = .ok (.ifCond .lt 16, 3) := dq_155 (a := 0) (b := 16) (fd_r fcX10_measure (by decide +kernel)) rfl
theorem dX10_measure_14 : decode cX10_measure 14 = .ok (.iload 4, 2) := dq_21 (a := 4) (fd_r fcX10_measure (by decide +kernel))
theorem dX10_measure_16 : decode cX10_measure 16 = .ok (.ldc 20, 2) := dq_18 (a := 20) (fd_r fcX10_measure (by decide +kernel))
theorem dX10_measure_18 : decode cX10_measure 18 = .ok (.if_icmp .ge 9, 3) := dq_162 (a := 0) (b := 9) (fd_r fcX10_measure (by decide +kernel)) rfl
theorem dX10_measure_21 : decode cX10_measure 21 = .ok (.iload_n 3, 1) := dq_29 (fd_r fcX10_measure (by decide +kernel))
theorem dX10_measure_22 : decode cX10_measure 22 = .ok (.bipush 20, 2) := dq_16 (a := 20) (fd_r fcX10_measure (by decide +kernel)) rfl
theorem dX10_measure_24 : decode cX10_measure 24 = .ok (.if_icmp .le 5, 3) := dq_164 (a := 0) (b := 5) (fd_r fcX10_measure (by decide +kernel)) rfl
theorem dX10_measure_27 : decode cX10_measure 27 = .ok (.lconst 0, 1) := dq_9 (fd_r fcX10_measure (by decide +kernel))
theorem dX10_measure_28 : decode cX10_measure 28 = .ok (.lreturn, 1) := dq_173 (fd_r fcX10_measure (by decide +kernel))
theorem dX10_measure_29 : decode cX10_measure 29 = .ok (.aload_n 0, 1) := dq_42 (fd_r fcX10_measure (by decide +kernel))
theorem dX10_measure_30 : decode cX10_measure 30 = .ok (.getfield 21, 3) := dq_180 (a := 0) (b := 21) (fd_r fcX10_measure (by decide +kernel)) rfl
theorem dX10_measure_33 : decode cX10_measure 33 = .ok (.iload 4, 2) := dq_21 (a := 4) (fd_r fcX10_measure (by decide +kernel))
theorem dX10_measure_35 : decode cX10_measure 35 = .ok (.laload, 1) := dq_47 (fd_r fcX10_measure (by decide +kernel))
theorem dX10_measure_36 : decode cX10_measure 36 = .ok (.bipush 40, 2) := dq_16 (a := 40) (fd_r fcX10_measure (by decide +kernel)) rfl
theorem dX10_measure_38 : decode cX10_measure 38 = .ok (.lushr, 1) := dq_125 (fd_r fcX10_measure (by decide +kernel))
theorem dX10_measure_39 : decode cX10_measure 39 = .ok (.aload_n 0, 1) := dq_42 (fd_r fcX10_measure (by decide +kernel))
theorem dX10_measure_40 : decode cX10_measure 40 = .ok (.getfield 128, 3) := dq_180 (a := 0) (b := 128) (fd_r fcX10_measure (by decide +kernel)) rfl
theorem dX10_measure_43 : decode cX10_measure 43 = .ok (.i2l, 1) := dq_133 (fd_r fcX10_measure (by decide +kernel))
theorem dX10_measure_44 : decode cX10_measure 44 = .ok (.lcmp, 1) := dq_148 (fd_r fcX10_measure (by decide +kernel))
theorem dX10_measure_45 : decode cX10_measure 45 = .ok (.ifCond .ne 11, 3) := dq_154 (a := 0) (b := 11) (fd_r fcX10_measure (by decide +kernel)) rfl
theorem dX10_measure_48 : decode cX10_measure 48 = .ok (.aload_n 0, 1) := dq_42 (fd_r fcX10_measure (by decide +kernel))
theorem dX10_measure_49 : decode cX10_measure 49 = .ok (.getfield 21, 3) := dq_180 (a := 0) (b := 21) (fd_r fcX10_measure (by decide +kernel)) rfl
theorem dX10_measure_52 : decode cX10_measure 52 = .ok (.iload 4, 2) := dq_21 (a := 4) (fd_r fcX10_measure (by decide +kernel))
theorem dX10_measure_54 : decode cX10_measure 54 = .ok (.laload, 1) := dq_47 (fd_r fcX10_measure (by decide +kernel))
theorem dX10_measure_55 : decode cX10_measure 55 = .ok (.lreturn, 1) := dq_173 (fd_r fcX10_measure (by decide +kernel))
theorem dX10_measure_56 : decode cX10_measure 56 = .ok (.aload_n 0, 1) := dq_42 (fd_r fcX10_measure (by decide +kernel))
theorem dX10_measure_57 : decode cX10_measure 57 = .ok (.dup, 1) := dq_89 (fd_r fcX10_measure (by decide +kernel))
theorem dX10_measure_58 : decode cX10_measure 58 = .ok (.getfield 131, 3) := dq_180 (a := 0) (b := 131) (fd_r fcX10_measure (by decide +kernel)) rfl
theorem dX10_measure_61 : decode cX10_measure 61 = .ok (.iconst 1, 1) := dq_4 (fd_r fcX10_measure (by decide +kernel))
theorem dX10_measure_62 : decode cX10_measure 62 = .ok (.iadd, 1) := dq_96 (fd_r fcX10_measure (by decide +kernel))
theorem dX10_measure_63 : decode cX10_measure 63 = .ok (.putfield 131, 3) := dq_181 (a := 0) (b := 131) (fd_r fcX10_measure (by decide +kernel)) rfl
theorem dX10_measure_66 : decode cX10_measure 66 = .ok (.iconst 1, 1) := dq_4 (fd_r fcX10_measure (by decide +kernel))
theorem dX10_measure_67 : decode cX10_measure 67 = .ok (.istore 5, 2) := dq_54 (a := 5) (fd_r fcX10_measure (by decide +kernel))
theorem dX10_measure_69 : decode cX10_measure 69 = .ok (.iconst 0, 1) := dq_3 (fd_r fcX10_measure (by decide +kernel))
theorem dX10_measure_70 : decode cX10_measure 70 = .ok (.istore 6, 2) := dq_54 (a := 6) (fd_r fcX10_measure (by decide +kernel))
theorem dX10_measure_72 : decode cX10_measure 72 = .ok (.iconst 0, 1) := dq_3 (fd_r fcX10_measure (by decide +kernel))
theorem dX10_measure_73 : decode cX10_measure 73 = .ok (.istore 7, 2) := dq_54 (a := 7) (fd_r fcX10_measure (by decide +kernel))
theorem dX10_measure_75 : decode cX10_measure 75 = .ok (.aload_n 0, 1) := dq_42 (fd_r fcX10_measure (by decide +kernel))
theorem dX10_measure_76 : decode cX10_measure 76 = .ok (.iload_n 1, 1) := dq_27 (fd_r fcX10_measure (by decide +kernel))
theorem dX10_measure_77 : decode cX10_measure 77 = .ok (.iload_n 2, 1) := dq_28 (fd_r fcX10_measure (by decide +kernel))
theorem dX10_measure_78 : decode cX10_measure 78 = .ok (.invokevirtual 145, 3) := dq_182 (a := 0) (b := 145) (fd_r fcX10_measure (by decide +kernel)) rfl
theorem dX10_measure_81 : decode cX10_measure 81 = .ok (.istore 8, 2) := dq_54 (a := 8) (fd_r fcX10_measure (by decide +kernel))
theorem dX10_measure_83 : decode cX10_measure 83 = .ok (.aload_n 0, 1) := dq_42 (fd_r fcX10_measure (by decide +kernel))
theorem dX10_measure_84 : decode cX10_measure 84 = .ok (.getfield 33, 3) := dq_180 (a := 0) (b := 33) (fd_r fcX10_measure (by decide +kernel)) rfl
theorem dX10_measure_87 : decode cX10_measure 87 = .ok (.iload_n 1, 1) := dq_27 (fd_r fcX10_measure (by decide +kernel))
theorem dX10_measure_88 : decode cX10_measure 88 = .ok (.invokevirtual 64, 3) := dq_182 (a := 0) (b := 64) (fd_r fcX10_measure (by decide +kernel)) rfl
theorem dX10_measure_91 : decode cX10_measure 91 = .ok (.istore 9, 2) := dq_54 (a := 9) (fd_r fcX10_measure (by decide +kernel))
theorem dX10_measure_93 : decode cX10_measure 93 = .ok (.aload_n 0, 1) := dq_42 (fd_r fcX10_measure (by decide +kernel))
theorem dX10_measure_94 : decode cX10_measure 94 = .ok (.getfield 29, 3) := dq_180 (a := 0) (b := 29) (fd_r fcX10_measure (by decide +kernel)) rfl
theorem dX10_measure_97 : decode cX10_measure 97 = .ok (.iload 9, 2) := dq_21 (a := 9) (fd_r fcX10_measure (by decide +kernel))
theorem dX10_measure_99 : decode cX10_measure 99 = .ok (.invokevirtual 148, 3) := dq_182 (a := 0) (b := 148) (fd_r fcX10_measure (by decide +kernel)) rfl
theorem dX10_measure_102 : decode cX10_measure 102 = .ok (.istore 10, 2) := dq_54 (a := 10) (fd_r fcX10_measure (by decide +kernel))
theorem dX10_measure_104 : decode cX10_measure 104 = .ok (.iload 8, 2) := dq_21 (a := 8) (fd_r fcX10_measure (by decide +kernel))
theorem dX10_measure_106 : decode cX10_measure 106 = .ok (.iconst (-1), 1) := dq_2 (fd_r fcX10_measure (by decide +kernel))
theorem dX10_measure_107 : decode cX10_measure 107 = .ok (.if_icmp .eq 119, 3) := dq_159 (a := 0) (b := 119) (fd_r fcX10_measure (by decide +kernel)) rfl
theorem dX10_measure_110 : decode cX10_measure 110 = .ok (.aload_n 0, 1) := dq_42 (fd_r fcX10_measure (by decide +kernel))
theorem dX10_measure_111 : decode cX10_measure 111 = .ok (.iload_n 2, 1) := dq_28 (fd_r fcX10_measure (by decide +kernel))
theorem dX10_measure_112 : decode cX10_measure 112 = .ok (.invokevirtual 151, 3) := dq_182 (a := 0) (b := 151) (fd_r fcX10_measure (by decide +kernel)) rfl
theorem dX10_measure_115 : decode cX10_measure 115 = .ok (.istore 6, 2) := dq_54 (a := 6) (fd_r fcX10_measure (by decide +kernel))
theorem dX10_measure_117 : decode cX10_measure 117 = .ok (.aload_n 0, 1) := dq_42 (fd_r fcX10_measure (by decide +kernel))
theorem dX10_measure_118 : decode cX10_measure 118 = .ok (.iload_n 1, 1) := dq_27 (fd_r fcX10_measure (by decide +kernel))
theorem dX10_measure_119 : decode cX10_measure 119 = .ok (.iload_n 2, 1) := dq_28 (fd_r fcX10_measure (by decide +kernel))
theorem dX10_measure_120 : decode cX10_measure 120 = .ok (.iload 8, 2) := dq_21 (a := 8) (fd_r fcX10_measure (by decide +kernel))
theorem dX10_measure_122 : decode cX10_measure 122 = .ok (.invokevirtual 154, 3) := dq_182 (a := 0) (b := 154) (fd_r fcX10_measure (by decide +kernel)) rfl
theorem dX10_measure_125 : decode cX10_measure 125 = .ok (.astore 11, 2) := dq_58 (a := 11) (fd_r fcX10_measure (by decide +kernel))
theorem dX10_measure_127 : decode cX10_measure 127 = .ok (.iload_n 2, 1) := dq_28 (fd_r fcX10_measure (by decide +kernel))
theorem dX10_measure_128 : decode cX10_measure 128 = .ok (.iconst 1, 1) := dq_4 (fd_r fcX10_measure (by decide +kernel))
theorem dX10_measure_129 : decode cX10_measure 129 = .ok (.iload 8, 2) := dq_21 (a := 8) (fd_r fcX10_measure (by decide +kernel))
theorem dX10_measure_131 : decode cX10_measure 131 = .ok (.ishl, 1) := dq_120 (fd_r fcX10_measure (by decide +kernel))
theorem dX10_measure_132 : decode cX10_measure 132 = .ok (.iconst (-1), 1) := dq_2 (fd_r fcX10_measure (by decide +kernel))
theorem dX10_measure_133 : decode cX10_measure 133 = .ok (.ixor, 1) := dq_130 (fd_r fcX10_measure (by decide +kernel))
theorem dX10_measure_134 : decode cX10_measure 134 = .ok (.iand, 1) := dq_126 (fd_r fcX10_measure (by decide +kernel))
theorem dX10_measure_135 : decode cX10_measure 135 = .ok (.istore 12, 2) := dq_54 (a := 12) (fd_r fcX10_measure (by decide +kernel))
theorem dX10_measure_137 : decode cX10_measure 137 = .ok (.iconst 0, 1) := dq_3 (fd_r fcX10_measure (by decide +kernel))
theorem dX10_measure_138 : decode cX10_measure 138 = .ok (.istore 13, 2) := dq_54 (a := 13) (fd_r fcX10_measure (by decide +kernel))
theorem dX10_measure_140 : decode cX10_measure 140 = .ok (.iload 13, 2) := dq_21 (a := 13) (fd_r fcX10_measure (by decide +kernel))
theorem dX10_measure_142 : decode cX10_measure 142 = .ok (.aload 11, 2) := dq_25 (a := 11) (fd_r fcX10_measure (by decide +kernel))
theorem dX10_measure_144 : decode cX10_measure 144 = .ok (.getfield 103, 3) := dq_180 (a := 0) (b := 103) (fd_r fcX10_measure (by decide +kernel)) rfl
theorem dX10_measure_147 : decode cX10_measure 147 = .ok (.if_icmp .ge 76, 3) := dq_162 (a := 0) (b := 76) (fd_r fcX10_measure (by decide +kernel)) rfl
theorem dX10_measure_150 : decode cX10_measure 150 = .ok (.aload_n 0, 1) := dq_42 (fd_r fcX10_measure (by decide +kernel))
theorem dX10_measure_151 : decode cX10_measure 151 = .ok (.aload 11, 2) := dq_25 (a := 11) (fd_r fcX10_measure (by decide +kernel))
theorem dX10_measure_153 : decode cX10_measure 153 = .ok (.getfield 104, 3) := dq_180 (a := 0) (b := 104) (fd_r fcX10_measure (by decide +kernel)) rfl
theorem dX10_measure_156 : decode cX10_measure 156 = .ok (.iload 13, 2) := dq_21 (a := 13) (fd_r fcX10_measure (by decide +kernel))
theorem dX10_measure_158 : decode cX10_measure 158 = .ok (.iaload, 1) := dq_46 (fd_r fcX10_measure (by decide +kernel))
theorem dX10_measure_159 : decode cX10_measure 159 = .ok (.iload 12, 2) := dq_21 (a := 12) (fd_r fcX10_measure (by decide +kernel))
theorem dX10_measure_161 : decode cX10_measure 161 = .ok (.iload_n 3, 1) := dq_29 (fd_r fcX10_measure (by decide +kernel))
theorem dX10_measure_162 : decode cX10_measure 162 = .ok (.iconst 1, 1) := dq_4 (fd_r fcX10_measure (by decide +kernel))
theorem dX10_measure_163 : decode cX10_measure 163 = .ok (.iadd, 1) := dq_96 (fd_r fcX10_measure (by decide +kernel))
theorem dX10_measure_164 : decode cX10_measure 164 = .ok (.invokestatic 141, 3) := dq_184 (a := 0) (b := 141) (fd_r fcX10_measure (by decide +kernel)) rfl
theorem dX10_measure_167 : decode cX10_measure 167 = .ok (.lstore 14, 2) := dq_55 (a := 14) (fd_r fcX10_measure (by decide +kernel))
theorem dX10_measure_169 : decode cX10_measure 169 = .ok (.ldc 158, 2) := dq_18 (a := 158) (fd_r fcX10_measure (by decide +kernel))
theorem dX10_measure_171 : decode cX10_measure 171 = .ok (.iload 5, 2) := dq_21 (a := 5) (fd_r fcX10_measure (by decide +kernel))
theorem dX10_measure_173 : decode cX10_measure 173 = .ok (.lload 14, 2) := dq_22 (a := 14) (fd_r fcX10_measure (by decide +kernel))
theorem dX10_measure_175 : decode cX10_measure 175 = .ok (.invokestatic 159, 3) := dq_184 (a := 0) (b := 159) (fd_r fcX10_measure (by decide +kernel)) rfl
theorem dX10_measure_178 : decode cX10_measure 178 = .ok (.iadd, 1) := dq_96 (fd_r fcX10_measure (by decide +kernel))
theorem dX10_measure_179 : decode cX10_measure 179 = .ok (.invokestatic 121, 3) := dq_184 (a := 0) (b := 121) (fd_r fcX10_measure (by decide +kernel)) rfl
theorem dX10_measure_182 : decode cX10_measure 182 = .ok (.istore 5, 2) := dq_54 (a := 5) (fd_r fcX10_measure (by decide +kernel))
theorem dX10_measure_184 : decode cX10_measure 184 = .ok (.iload 6, 2) := dq_21 (a := 6) (fd_r fcX10_measure (by decide +kernel))
theorem dX10_measure_186 : decode cX10_measure 186 = .ok (.aload 11, 2) := dq_25 (a := 11) (fd_r fcX10_measure (by decide +kernel))
theorem dX10_measure_188 : decode cX10_measure 188 = .ok (.getfield 163, 3) := dq_180 (a := 0) (b := 163) (fd_r fcX10_measure (by decide +kernel)) rfl
theorem dX10_measure_191 : decode cX10_measure 191 = .ok (.iload 13, 2) := dq_21 (a := 13) (fd_r fcX10_measure (by decide +kernel))
theorem dX10_measure_193 : decode cX10_measure 193 = .ok (.iaload, 1) := dq_46 (fd_r fcX10_measure (by decide +kernel))
theorem dX10_measure_194 : decode cX10_measure 194 = .ok (.lload 14, 2) := dq_22 (a := 14) (fd_r fcX10_measure (by decide +kernel))
theorem dX10_measure_196 : decode cX10_measure 196 = .ok (.invokestatic 164, 3) := dq_184 (a := 0) (b := 164) (fd_r fcX10_measure (by decide +kernel)) rfl
theorem dX10_measure_199 : decode cX10_measure 199 = .ok (.imul, 1) := dq_104 (fd_r fcX10_measure (by decide +kernel))
theorem dX10_measure_200 : decode cX10_measure 200 = .ok (.iadd, 1) := dq_96 (fd_r fcX10_measure (by decide +kernel))
theorem dX10_measure_201 : decode cX10_measure 201 = .ok (.istore 6, 2) := dq_54 (a := 6) (fd_r fcX10_measure (by decide +kernel))
theorem dX10_measure_203 : decode cX10_measure 203 = .ok (.iload 7, 2) := dq_21 (a := 7) (fd_r fcX10_measure (by decide +kernel))
theorem dX10_measure_205 : decode cX10_measure 205 = .ok (.lload 14, 2) := dq_22 (a := 14) (fd_r fcX10_measure (by decide +kernel))
theorem dX10_measure_207 : decode cX10_measure 207 = .ok (.invokestatic 167, 3) := dq_184 (a := 0) (b := 167) (fd_r fcX10_measure (by decide +kernel)) rfl
theorem dX10_measure_210 : decode cX10_measure 210 = .ok (.iconst 1, 1) := dq_4 (fd_r fcX10_measure (by decide +kernel))
theorem dX10_measure_211 : decode cX10_measure 211 = .ok (.iadd, 1) := dq_96 (fd_r fcX10_measure (by decide +kernel))
theorem dX10_measure_212 : decode cX10_measure 212 = .ok (.invokestatic 116, 3) := dq_184 (a := 0) (b := 116) (fd_r fcX10_measure (by decide +kernel)) rfl
theorem dX10_measure_215 : decode cX10_measure 215 = .ok (.istore 7, 2) := dq_54 (a := 7) (fd_r fcX10_measure (by decide +kernel))
theorem dX10_measure_217 : decode cX10_measure 217 = .ok (.iinc 13 1, 3) := dq_132 (a := 13) (b := 1) (fd_r fcX10_measure (by decide +kernel)) rfl
theorem dX10_measure_220 : decode cX10_measure 220 = .ok (.goto (-80), 3) := dq_167 (a := 255) (b := 176) (fd_r fcX10_measure (by decide +kernel)) rfl
theorem dX10_measure_223 : decode cX10_measure 223 = .ok (.goto 75, 3) := dq_167 (a := 0) (b := 75) (fd_r fcX10_measure (by decide +kernel)) rfl
theorem dX10_measure_226 : decode cX10_measure 226 = .ok (.iload 10, 2) := dq_21 (a := 10) (fd_r fcX10_measure (by decide +kernel))
theorem dX10_measure_228 : decode cX10_measure 228 = .ok (.iconst (-1), 1) := dq_2 (fd_r fcX10_measure (by decide +kernel))
theorem dX10_measure_229 : decode cX10_measure 229 = .ok (.if_icmp .eq 69, 3) := dq_159 (a := 0) (b := 69) (fd_r fcX10_measure (by decide +kernel)) rfl
theorem dX10_measure_232 : decode cX10_measure 232 = .ok (.aload_n 0, 1) := dq_42 (fd_r fcX10_measure (by decide +kernel))
theorem dX10_measure_233 : decode cX10_measure 233 = .ok (.iload_n 1, 1) := dq_27 (fd_r fcX10_measure (by decide +kernel))
theorem dX10_measure_234 : decode cX10_measure 234 = .ok (.iconst 1, 1) := dq_4 (fd_r fcX10_measure (by decide +kernel))
theorem dX10_measure_235 : decode cX10_measure 235 = .ok (.iload 9, 2) := dq_21 (a := 9) (fd_r fcX10_measure (by decide +kernel))
theorem dX10_measure_237 : decode cX10_measure 237 = .ok (.ishl, 1) := dq_120 (fd_r fcX10_measure (by decide +kernel))
theorem dX10_measure_238 : decode cX10_measure 238 = .ok (.iconst (-1), 1) := dq_2 (fd_r fcX10_measure (by decide +kernel))
theorem dX10_measure_239 : decode cX10_measure 239 = .ok (.ixor, 1) := dq_130 (fd_r fcX10_measure (by decide +kernel))
theorem dX10_measure_240 : decode cX10_measure 240 = .ok (.iand, 1) := dq_126 (fd_r fcX10_measure (by decide +kernel))
theorem dX10_measure_241 : decode cX10_measure 241 = .ok (.iload_n 2, 1) := dq_28 (fd_r fcX10_measure (by decide +kernel))
theorem dX10_measure_242 : decode cX10_measure 242 = .ok (.iload_n 3, 1) := dq_29 (fd_r fcX10_measure (by decide +kernel))
theorem dX10_measure_243 : decode cX10_measure 243 = .ok (.iconst 1, 1) := dq_4 (fd_r fcX10_measure (by decide +kernel))
theorem dX10_measure_244 : decode cX10_measure 244 = .ok (.iadd, 1) := dq_96 (fd_r fcX10_measure (by decide +kernel))
theorem dX10_measure_245 : decode cX10_measure 245 = .ok (.invokestatic 141, 3) := dq_184 (a := 0) (b := 141) (fd_r fcX10_measure (by decide +kernel)) rfl
theorem dX10_measure_248 : decode cX10_measure 248 = .ok (.lstore 11, 2) := dq_55 (a := 11) (fd_r fcX10_measure (by decide +kernel))
theorem dX10_measure_250 : decode cX10_measure 250 = .ok (.ldc 158, 2) := dq_18 (a := 158) (fd_r fcX10_measure (by decide +kernel))
theorem dX10_measure_252 : decode cX10_measure 252 = .ok (.iload 5, 2) := dq_21 (a := 5) (fd_r fcX10_measure (by decide +kernel))
theorem dX10_measure_254 : decode cX10_measure 254 = .ok (.lload 11, 2) := dq_22 (a := 11) (fd_r fcX10_measure (by decide +kernel))
theorem dX10_measure_256 : decode cX10_measure 256 = .ok (.invokestatic 159, 3) := dq_184 (a := 0) (b := 159) (fd_r fcX10_measure (by decide +kernel)) rfl
theorem dX10_measure_259 : decode cX10_measure 259 = .ok (.iadd, 1) := dq_96 (fd_r fcX10_measure (by decide +kernel))
theorem dX10_measure_260 : decode cX10_measure 260 = .ok (.invokestatic 121, 3) := dq_184 (a := 0) (b := 121) (fd_r fcX10_measure (by decide +kernel)) rfl
theorem dX10_measure_263 : decode cX10_measure 263 = .ok (.istore 5, 2) := dq_54 (a := 5) (fd_r fcX10_measure (by decide +kernel))
theorem dX10_measure_265 : decode cX10_measure 265 = .ok (.aload_n 0, 1) := dq_42 (fd_r fcX10_measure (by decide +kernel))
theorem dX10_measure_266 : decode cX10_measure 266 = .ok (.getfield 33, 3) := dq_180 (a := 0) (b := 33) (fd_r fcX10_measure (by decide +kernel)) rfl
theorem dX10_measure_269 : decode cX10_measure 269 = .ok (.getfield 170, 3) := dq_180 (a := 0) (b := 170) (fd_r fcX10_measure (by decide +kernel)) rfl
theorem dX10_measure_272 : decode cX10_measure 272 = .ok (.iload 10, 2) := dq_21 (a := 10) (fd_r fcX10_measure (by decide +kernel))
theorem dX10_measure_274 : decode cX10_measure 274 = .ok (.invokestatic 70, 3) := dq_184 (a := 0) (b := 70) (fd_r fcX10_measure (by decide +kernel)) rfl
theorem dX10_measure_277 : decode cX10_measure 277 = .ok (.ifCond .eq 7, 3) := dq_153 (a := 0) (b := 7) (fd_r fcX10_measure (by decide +kernel)) rfl
theorem dX10_measure_280 : decode cX10_measure 280 = .ok (.iconst 0, 1) := dq_3 (fd_r fcX10_measure (by decide +kernel))
theorem dX10_measure_281 : decode cX10_measure 281 = .ok (.goto 8, 3) := dq_167 (a := 0) (b := 8) (fd_r fcX10_measure (by decide +kernel)) rfl
theorem dX10_measure_284 : decode cX10_measure 284 = .ok (.lload 11, 2) := dq_22 (a := 11) (fd_r fcX10_measure (by decide +kernel))
theorem dX10_measure_286 : decode cX10_measure 286 = .ok (.invokestatic 164, 3) := dq_184 (a := 0) (b := 164) (fd_r fcX10_measure (by decide +kernel)) rfl
theorem dX10_measure_289 : decode cX10_measure 289 = .ok (.istore 6, 2) := dq_54 (a := 6) (fd_r fcX10_measure (by decide +kernel))
theorem dX10_measure_291 : decode cX10_measure 291 = .ok (.lload 11, 2) := dq_22 (a := 11) (fd_r fcX10_measure (by decide +kernel))
theorem dX10_measure_293 : decode cX10_measure 293 = .ok (.invokestatic 167, 3) := dq_184 (a := 0) (b := 167) (fd_r fcX10_measure (by decide +kernel)) rfl
theorem dX10_measure_296 : decode cX10_measure 296 = .ok (.istore 7, 2) := dq_54 (a := 7) (fd_r fcX10_measure (by decide +kernel))
theorem dX10_measure_298 : decode cX10_measure 298 = .ok (.iload 7, 2) := dq_21 (a := 7) (fd_r fcX10_measure (by decide +kernel))
theorem dX10_measure_300 : decode cX10_measure 300 = .ok (.i2l, 1) := dq_133 (fd_r fcX10_measure (by decide +kernel))
theorem dX10_measure_301 : decode cX10_measure 301 = .ok (.bipush 17, 2) := dq_16 (a := 17) (fd_r fcX10_measure (by decide +kernel)) rfl
theorem dX10_measure_303 : decode cX10_measure 303 = .ok (.lshl, 1) := dq_121 (fd_r fcX10_measure (by decide +kernel))
theorem dX10_measure_304 : decode cX10_measure 304 = .ok (.iload 6, 2) := dq_21 (a := 6) (fd_r fcX10_measure (by decide +kernel))
theorem dX10_measure_306 : decode cX10_measure 306 = .ok (.i2l, 1) := dq_133 (fd_r fcX10_measure (by decide +kernel))
theorem dX10_measure_307 : decode cX10_measure 307 = .ok (.lor, 1) := dq_129 (fd_r fcX10_measure (by decide +kernel))
theorem dX10_measure_308 : decode cX10_measure 308 = .ok (.bipush 20, 2) := dq_16 (a := 20) (fd_r fcX10_measure (by decide +kernel)) rfl
theorem dX10_measure_310 : decode cX10_measure 310 = .ok (.lshl, 1) := dq_121 (fd_r fcX10_measure (by decide +kernel))
theorem dX10_measure_311 : decode cX10_measure 311 = .ok (.iload 5, 2) := dq_21 (a := 5) (fd_r fcX10_measure (by decide +kernel))
theorem dX10_measure_313 : decode cX10_measure 313 = .ok (.i2l, 1) := dq_133 (fd_r fcX10_measure (by decide +kernel))
end
end
