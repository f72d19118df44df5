theorem dX0_init_0 : decode cX0_init 0 = .ok (.aload_n 0, 1) := by decide +kernel
theorem dX0_init_1 : decode cX0_init 1 = .ok (.invokespecial 3, 3) := by decide +kernel
theorem dX0_init_4 : decode cX0_init 4 = .ok (.aload_n 0, 1) := by decide +kernel
theorem dX0_init_5 : decode cX0_init 5 = .ok (.sipush 1024, 3) := by decide +kernel
theorem dX0_init_8 : decode cX0_init 8 = .ok (.newarray .int, 2) := by decide +kernel
theorem dX0_init_10 : decode cX0_init 10 = .ok (.putfield 9, 3) := by decide +kernel
theorem dX0_init_13 : decode cX0_init 13 = .ok (.aload_n 0, 1) := by decide +kernel
theorem dX0_init_14 : decode cX0_init 14 = .ok (.sipush 1024, 3) := by decide +kernel
theorem dX0_init_17 : decode cX0_init 17 = .ok (.newarray .int, 2) := by decide +kernel
theorem dX0_init_19 : decode cX0_init 19 = .ok (.putfield 15, 3) := by decide +kernel
theorem dX0_init_22 : decode cX0_init 22 = .ok (.aload_n 0, 1) := by decide +kernel
theorem dX0_init_23 : decode cX0_init 23 = .ok (.sipush 1024, 3) := by decide +kernel
theorem dX0_init_26 : decode cX0_init 26 = .ok (.newarray .int, 2) := by decide +kernel
theorem dX0_init_28 : decode cX0_init 28 = .ok (.putfield 18, 3) := by decide +kernel
theorem dX0_init_31 : decode cX0_init 31 = .ok (.aload_n 0, 1) := by decide +kernel
theorem dX0_init_32 : decode cX0_init 32 = .ok (.bipush 20, 2) := by decide +kernel
theorem dX0_init_34 : decode cX0_init 34 = .ok (.anewarray 21, 3) := by decide +kernel
theorem dX0_init_37 : decode cX0_init 37 = .ok (.putfield 23, 3) := by decide +kernel
theorem dX0_init_40 : decode cX0_init 40 = .ok (.aload_n 0, 1) := by decide +kernel
theorem dX0_init_41 : decode cX0_init 41 = .ok (.bipush 20, 2) := by decide +kernel
theorem dX0_init_43 : decode cX0_init 43 = .ok (.newarray .int, 2) := by decide +kernel
theorem dX0_init_45 : decode cX0_init 45 = .ok (.putfield 27, 3) := by decide +kernel
theorem dX0_init_48 : decode cX0_init 48 = .ok (.iconst 0, 1) := by decide +kernel
theorem dX0_init_49 : decode cX0_init 49 = .ok (.istore_n 1, 1) := by decide +kernel
theorem dX0_init_50 : decode cX0_init 50 = .ok (.iload_n 1, 1) := by decide +kernel
theorem dX0_init_51 : decode cX0_init 51 = .ok (.bipush 20, 2) := by decide +kernel
theorem dX0_init_53 : decode cX0_init 53 = .ok (.if_icmp .ge 22, 3) := by decide +kernel
theorem dX0_init_56 : decode cX0_init 56 = .ok (.aload_n 0, 1) := by decide +kernel
theorem dX0_init_57 : decode cX0_init 57 = .ok (.getfield 23, 3) := by decide +kernel
theorem dX0_init_60 : decode cX0_init 60 = .ok (.iload_n 1, 1) := by decide +kernel
theorem dX0_init_61 : decode cX0_init 61 = .ok (.new 21, 3) := by decide +kernel
theorem dX0_init_64 : decode cX0_init 64 = .ok (.dup, 1) := by decide +kernel
theorem dX0_init_65 : decode cX0_init 65 = .ok (.invokespecial 30, 3) := by decide +kernel
theorem dX0_init_68 : decode cX0_init 68 = .ok (.aastore, 1) := by decide +kernel
theorem dX0_init_69 : decode cX0_init 69 = .ok (.iinc 1 1, 3) := by decide +kernel
theorem dX0_init_72 : decode cX0_init 72 = .ok (.goto (-22), 3) := by decide +kernel
theorem dX0_init_75 : decode cX0_init 75 = .ok (.return_, 1) := by decide +kernel
theorem dX0_clear_0 : decode cX0_clear 0 = .ok (.aload_n 0, 1) := by decide +kernel
theorem dX0_clear_1 : decode cX0_clear 1 = .ok (.iconst 0, 1) := by decide +kernel
theorem dX0_clear_2 : decode cX0_clear 2 = .ok (.putfield 31, 3) := by decide +kernel
theorem dX0_clear_5 : decode cX0_clear 5 = .ok (.aload_n 0, 1) := by decide +kernel
theorem dX0_clear_6 : decode cX0_clear 6 = .ok (.iconst 0, 1) := by decide +kernel
theorem dX0_clear_7 : decode cX0_clear 7 = .ok (.putfield 35, 3) := by decide +kernel
theorem dX0_clear_10 : decode cX0_clear 10 = .ok (.return_, 1) := by decide +kernel
theorem dX0_keptTold_0 : decode cX0_keptTold 0 = .ok (.aload_n 0, 1) := by decide +kernel
theorem dX0_keptTold_1 : decode cX0_keptTold 1 = .ok (.getfield 31, 3) := by decide +kernel
theorem dX0_keptTold_4 : decode cX0_keptTold 4 = .ok (.bipush 40, 2) := by decide +kernel
theorem dX0_keptTold_6 : decode cX0_keptTold 6 = .ok (.invokestatic 38, 3) := by decide +kernel
theorem dX0_keptTold_9 : decode cX0_keptTold 9 = .ok (.ireturn, 1) := by decide +kernel
theorem dX0_keep_0 : decode cX0_keep 0 = .ok (.aload_n 0, 1) := by decide +kernel
theorem dX0_keep_1 : decode cX0_keep 1 = .ok (.getfield 31, 3) := by decide +kernel
theorem dX0_keep_4 : decode cX0_keep 4 = .ok (.sipush 1024, 3) := by decide +kernel
theorem dX0_keep_7 : decode cX0_keep 7 = .ok (.invokestatic 44, 3) := by decide +kernel
theorem dX0_keep_10 : decode cX0_keep 10 = .ok (.istore 4, 2) := by decide +kernel
theorem dX0_keep_12 : decode cX0_keep 12 = .ok (.aload_n 0, 1) := by decide +kernel
theorem dX0_keep_13 : decode cX0_keep 13 = .ok (.getfield 9, 3) := by decide +kernel
theorem dX0_keep_16 : decode cX0_keep 16 = .ok (.iload 4, 2) := by decide +kernel
theorem dX0_keep_18 : decode cX0_keep 18 = .ok (.iload_n 1, 1) := by decide +kernel
theorem dX0_keep_19 : decode cX0_keep 19 = .ok (.iastore, 1) := by decide +kernel
theorem dX0_keep_20 : decode cX0_keep 20 = .ok (.aload_n 0, 1) := by decide +kernel
theorem dX0_keep_21 : decode cX0_keep 21 = .ok (.getfield 15, 3) := by decide +kernel
theorem dX0_keep_24 : decode cX0_keep 24 = .ok (.iload 4, 2) := by decide +kernel
theorem dX0_keep_26 : decode cX0_keep 26 = .ok (.iload_n 2, 1) := by decide +kernel
theorem dX0_keep_27 : decode cX0_keep 27 = .ok (.iastore, 1) := by decide +kernel
theorem dX0_keep_28 : decode cX0_keep 28 = .ok (.aload_n 0, 1) := by decide +kernel
theorem dX0_keep_29 : decode cX0_keep 29 = .ok (.getfield 18, 3) := by decide +kernel
theorem dX0_keep_32 : decode cX0_keep 32 = .ok (.iload 4, 2) := by decide +kernel
theorem dX0_keep_34 : decode cX0_keep 34 = .ok (.iload_n 3, 1) := by decide +kernel
theorem dX0_keep_35 : decode cX0_keep 35 = .ok (.iastore, 1) := by decide +kernel
theorem dX0_keep_36 : decode cX0_keep 36 = .ok (.aload_n 0, 1) := by decide +kernel
theorem dX0_keep_37 : decode cX0_keep 37 = .ok (.dup, 1) := by decide +kernel
theorem dX0_keep_38 : decode cX0_keep 38 = .ok (.getfield 31, 3) := by decide +kernel
theorem dX0_keep_41 : decode cX0_keep 41 = .ok (.iconst 1, 1) := by decide +kernel
theorem dX0_keep_42 : decode cX0_keep 42 = .ok (.iadd, 1) := by decide +kernel
theorem dX0_keep_43 : decode cX0_keep 43 = .ok (.putfield 31, 3) := by decide +kernel
theorem dX0_keep_46 : decode cX0_keep 46 = .ok (.return_, 1) := by decide +kernel
theorem dX0_tellKept_0 : decode cX0_tellKept 0 = .ok (.iload_n 1, 1) := by decide +kernel
theorem dX0_tellKept_1 : decode cX0_tellKept 1 = .ok (.ifCond .lt 11, 3) := by decide +kernel
theorem dX0_tellKept_4 : decode cX0_tellKept 4 = .ok (.iload_n 1, 1) := by decide +kernel
theorem dX0_tellKept_5 : decode cX0_tellKept 5 = .ok (.aload_n 0, 1) := by decide +kernel
theorem dX0_tellKept_6 : decode cX0_tellKept 6 = .ok (.invokevirtual 47, 3) := by decide +kernel
theorem dX0_tellKept_9 : decode cX0_tellKept 9 = .ok (.if_icmp .lt 5, 3) := by decide +kernel
theorem dX0_tellKept_12 : decode cX0_tellKept 12 = .ok (.iconst (-1), 1) := by decide +kernel
theorem dX0_tellKept_13 : decode cX0_tellKept 13 = .ok (.ireturn, 1) := by decide +kernel
theorem dX0_tellKept_14 : decode cX0_tellKept 14 = .ok (.aload_n 0, 1) := by decide +kernel
theorem dX0_tellKept_15 : decode cX0_tellKept 15 = .ok (.getfield 31, 3) := by decide +kernel
theorem dX0_tellKept_18 : decode cX0_tellKept 18 = .ok (.aload_n 0, 1) := by decide +kernel
theorem dX0_tellKept_19 : decode cX0_tellKept 19 = .ok (.invokevirtual 47, 3) := by decide +kernel
theorem dX0_tellKept_22 : decode cX0_tellKept 22 = .ok (.isub, 1) := by decide +kernel
theorem dX0_tellKept_23 : decode cX0_tellKept 23 = .ok (.iload_n 1, 1) := by decide +kernel
theorem dX0_tellKept_24 : decode cX0_tellKept 24 = .ok (.iadd, 1) := by decide +kernel
theorem dX0_tellKept_25 : decode cX0_tellKept 25 = .ok (.sipush 1024, 3) := by decide +kernel
theorem dX0_tellKept_28 : decode cX0_tellKept 28 = .ok (.invokestatic 44, 3) := by decide +kernel
theorem dX0_tellKept_31 : decode cX0_tellKept 31 = .ok (.istore_n 3, 1) := by decide +kernel
theorem dX0_tellKept_32 : decode cX0_tellKept 32 = .ok (.iload_n 2, 1) := by decide +kernel
theorem dX0_tellKept_33 : decode cX0_tellKept 33 = .ok (.tableswitch 48 0 2 #[27, 34, 41], 27) := by decide +kernel
theorem dX0_tellKept_60 : decode cX0_tellKept 60 = .ok (.aload_n 0, 1) := by decide +kernel
theorem dX0_tellKept_61 : decode cX0_tellKept 61 = .ok (.getfield 9, 3) := by decide +kernel
theorem dX0_tellKept_64 : decode cX0_tellKept 64 = .ok (.iload_n 3, 1) := by decide +kernel
theorem dX0_tellKept_65 : decode cX0_tellKept 65 = .ok (.iaload, 1) := by decide +kernel
theorem dX0_tellKept_66 : decode cX0_tellKept 66 = .ok (.ireturn, 1) := by decide +kernel
theorem dX0_tellKept_67 : decode cX0_tellKept 67 = .ok (.aload_n 0, 1) := by decide +kernel
theorem dX0_tellKept_68 : decode cX0_tellKept 68 = .ok (.getfield 15, 3) := by decide +kernel
theorem dX0_tellKept_71 : decode cX0_tellKept 71 = .ok (.iload_n 3, 1) := by decide +kernel
theorem dX0_tellKept_72 : decode cX0_tellKept 72 = .ok (.iaload, 1) := by decide +kernel
theorem dX0_tellKept_73 : decode cX0_tellKept 73 = .ok (.ireturn, 1) := by decide +kernel
theorem dX0_tellKept_74 : decode cX0_tellKept 74 = .ok (.aload_n 0, 1) := by decide +kernel
theorem dX0_tellKept_75 : decode cX0_tellKept 75 = .ok (.getfield 18, 3) := by decide +kernel
theorem dX0_tellKept_78 : decode cX0_tellKept 78 = .ok (.iload_n 3, 1) := by decide +kernel
theorem dX0_tellKept_79 : decode cX0_tellKept 79 = .ok (.iaload, 1) := by decide +kernel
theorem dX0_tellKept_80 : decode cX0_tellKept 80 = .ok (.ireturn, 1) := by decide +kernel
theorem dX0_tellKept_81 : decode cX0_tellKept 81 = .ok (.iconst (-1), 1) := by decide +kernel
theorem dX0_tellKept_82 : decode cX0_tellKept 82 = .ok (.ireturn, 1) := by decide +kernel
theorem dX0_remember_0 : decode cX0_remember 0 = .ok (.aload_n 0, 1) := by decide +kernel
theorem dX0_remember_1 : decode cX0_remember 1 = .ok (.getfield 51, 3) := by decide +kernel
theorem dX0_remember_4 : decode cX0_remember 4 = .ok (.bipush 20, 2) := by decide +kernel
theorem dX0_remember_6 : decode cX0_remember 6 = .ok (.invokestatic 44, 3) := by decide +kernel
theorem dX0_remember_9 : decode cX0_remember 9 = .ok (.istore_n 2, 1) := by decide +kernel
theorem dX0_remember_10 : decode cX0_remember 10 = .ok (.aload_n 0, 1) := by decide +kernel
theorem dX0_remember_11 : decode cX0_remember 11 = .ok (.getfield 23, 3) := by decide +kernel
theorem dX0_remember_14 : decode cX0_remember 14 = .ok (.iload_n 2, 1) := by decide +kernel
theorem dX0_remember_15 : decode cX0_remember 15 = .ok (.aaload, 1) := by decide +kernel
theorem dX0_remember_16 : decode cX0_remember 16 = .ok (.aload_n 1, 1) := by decide +kernel
theorem dX0_remember_17 : decode cX0_remember 17 = .ok (.invokevirtual 54, 3) := by decide +kernel
theorem dX0_remember_20 : decode cX0_remember 20 = .ok (.aload_n 0, 1) := by decide +kernel
theorem dX0_remember_21 : decode cX0_remember 21 = .ok (.getfield 27, 3) := by decide +kernel
theorem dX0_remember_24 : decode cX0_remember 24 = .ok (.iload_n 2, 1) := by decide +kernel
theorem dX0_remember_25 : decode cX0_remember 25 = .ok (.aload_n 0, 1) := by decide +kernel
theorem dX0_remember_26 : decode cX0_remember 26 = .ok (.getfield 31, 3) := by decide +kernel
theorem dX0_remember_29 : decode cX0_remember 29 = .ok (.iastore, 1) := by decide +kernel
theorem dX0_remember_30 : decode cX0_remember 30 = .ok (.aload_n 0, 1) := by decide +kernel
theorem dX0_remember_31 : decode cX0_remember 31 = .ok (.iload_n 2, 1) := by decide +kernel
theorem dX0_remember_32 : decode cX0_remember 32 = .ok (.iconst 1, 1) := by decide +kernel
theorem dX0_remember_33 : decode cX0_remember 33 = .ok (.iadd, 1) := by decide +kernel
theorem dX0_remember_34 : decode cX0_remember 34 = .ok (.putfield 51, 3) := by decide +kernel
theorem dX0_remember_37 : decode cX0_remember 37 = .ok (.aload_n 0, 1) := by decide +kernel
theorem dX0_remember_38 : decode cX0_remember 38 = .ok (.aload_n 0, 1) := by decide +kernel
theorem dX0_remember_39 : decode cX0_remember 39 = .ok (.getfield 35, 3) := by decide +kernel
theorem dX0_remember_42 : decode cX0_remember 42 = .ok (.iconst 1, 1) := by decide +kernel
theorem dX0_remember_43 : decode cX0_remember 43 = .ok (.iadd, 1) := by decide +kernel
theorem dX0_remember_44 : decode cX0_remember 44 = .ok (.bipush 20, 2) := by decide +kernel
theorem dX0_remember_46 : decode cX0_remember 46 = .ok (.invokestatic 38, 3) := by decide +kernel
theorem dX0_remember_49 : decode cX0_remember 49 = .ok (.putfield 35, 3) := by decide +kernel
theorem dX0_remember_52 : decode cX0_remember 52 = .ok (.return_, 1) := by decide +kernel
theorem dX0_takeBack_0 : decode cX0_takeBack 0 = .ok (.aload_n 0, 1) := by decide +kernel
theorem dX0_takeBack_1 : decode cX0_takeBack 1 = .ok (.getfield 51, 3) := by decide +kernel
theorem dX0_takeBack_4 : decode cX0_takeBack 4 = .ok (.iconst 1, 1) := by decide +kernel
theorem dX0_takeBack_5 : decode cX0_takeBack 5 = .ok (.isub, 1) := by decide +kernel
theorem dX0_takeBack_6 : decode cX0_takeBack 6 = .ok (.bipush 20, 2) := by decide +kernel
theorem dX0_takeBack_8 : decode cX0_takeBack 8 = .ok (.invokestatic 44, 3) := by decide +kernel
theorem dX0_takeBack_11 : decode cX0_takeBack 11 = .ok (.istore_n 2, 1) := by decide +kernel
theorem dX0_takeBack_12 : decode cX0_takeBack 12 = .ok (.aload_n 1, 1) := by decide +kernel
theorem dX0_takeBack_13 : decode cX0_takeBack 13 = .ok (.aload_n 0, 1) := by decide +kernel
theorem dX0_takeBack_14 : decode cX0_takeBack 14 = .ok (.getfield 23, 3) := by decide +kernel
theorem dX0_takeBack_17 : decode cX0_takeBack 17 = .ok (.iload_n 2, 1) := by decide +kernel
theorem dX0_takeBack_18 : decode cX0_takeBack 18 = .ok (.aaload, 1) := by decide +kernel
theorem dX0_takeBack_19 : decode cX0_takeBack 19 = .ok (.invokevirtual 54, 3) := by decide +kernel
theorem dX0_takeBack_22 : decode cX0_takeBack 22 = .ok (.aload_n 0, 1) := by decide +kernel
theorem dX0_takeBack_23 : decode cX0_takeBack 23 = .ok (.aload_n 0, 1) := by decide +kernel
theorem dX0_takeBack_24 : decode cX0_takeBack 24 = .ok (.getfield 27, 3) := by decide +kernel
theorem dX0_takeBack_27 : decode cX0_takeBack 27 = .ok (.iload_n 2, 1) := by decide +kernel
theorem dX0_takeBack_28 : decode cX0_takeBack 28 = .ok (.iaload, 1) := by decide +kernel
theorem dX0_takeBack_29 : decode cX0_takeBack 29 = .ok (.putfield 31, 3) := by decide +kernel
theorem dX0_takeBack_32 : decode cX0_takeBack 32 = .ok (.aload_n 0, 1) := by decide +kernel
theorem dX0_takeBack_33 : decode cX0_takeBack 33 = .ok (.iload_n 2, 1) := by decide +kernel
theorem dX0_takeBack_34 : decode cX0_takeBack 34 = .ok (.putfield 51, 3) := by decide +kernel
theorem dX0_takeBack_37 : decode cX0_takeBack 37 = .ok (.aload_n 0, 1) := by decide +kernel
theorem dX0_takeBack_38 : decode cX0_takeBack 38 = .ok (.aload_n 0, 1) := by decide +kernel
theorem dX0_takeBack_39 : decode cX0_takeBack 39 = .ok (.getfield 35, 3) := by decide +kernel
theorem dX0_takeBack_42 : decode cX0_takeBack 42 = .ok (.iconst 1, 1) := by decide +kernel
theorem dX0_takeBack_43 : decode cX0_takeBack 43 = .ok (.isub, 1) := by decide +kernel
theorem dX0_takeBack_44 : decode cX0_takeBack 44 = .ok (.iconst 0, 1) := by decide +kernel
theorem dX0_takeBack_45 : decode cX0_takeBack 45 = .ok (.invokestatic 58, 3) := by decide +kernel
theorem dX0_takeBack_48 : decode cX0_takeBack 48 = .ok (.putfield 35, 3) := by decide +kernel
theorem dX0_takeBack_51 : decode cX0_takeBack 51 = .ok (.return_, 1) := by decide +kernel
theorem dX1_init_0 : decode cX1_init 0 = .ok (.aload_n 0, 1) := by decide +kernel
theorem dX1_init_1 : decode cX1_init 1 = .ok (.invokespecial 3, 3) := by decide +kernel
theorem dX1_init_4 : decode cX1_init 4 = .ok (.aload_n 0, 1) := by decide +kernel
theorem dX1_init_5 : decode cX1_init 5 = .ok (.iload_n 1, 1) := by decide +kernel
theorem dX1_init_6 : decode cX1_init 6 = .ok (.iconst 0, 1) := by decide +kernel
theorem dX1_init_7 : decode cX1_init 7 = .ok (.invokestatic 9, 3) := by decide +kernel
theorem dX1_init_10 : decode cX1_init 10 = .ok (.newarray .int, 2) := by decide +kernel
theorem dX1_init_12 : decode cX1_init 12 = .ok (.putfield 15, 3) := by decide +kernel
theorem dX1_init_15 : decode cX1_init 15 = .ok (.return_, 1) := by decide +kernel
theorem dX1_add_0 : decode cX1_add 0 = .ok (.aload_n 0, 1) := by decide +kernel
theorem dX1_add_1 : decode cX1_add 1 = .ok (.getfield 21, 3) := by decide +kernel
theorem dX1_add_4 : decode cX1_add 4 = .ok (.ifCond .lt 39, 3) := by decide +kernel
theorem dX1_add_7 : decode cX1_add 7 = .ok (.aload_n 0, 1) := by decide +kernel
theorem dX1_add_8 : decode cX1_add 8 = .ok (.getfield 21, 3) := by decide +kernel
theorem dX1_add_11 : decode cX1_add 11 = .ok (.aload_n 0, 1) := by decide +kernel
theorem dX1_add_12 : decode cX1_add 12 = .ok (.getfield 15, 3) := by decide +kernel
theorem dX1_add_15 : decode cX1_add 15 = .ok (.arraylength, 1) := by decide +kernel
theorem dX1_add_16 : decode cX1_add 16 = .ok (.if_icmp .ge 27, 3) := by decide +kernel
theorem dX1_add_19 : decode cX1_add 19 = .ok (.aload_n 0, 1) := by decide +kernel
theorem dX1_add_20 : decode cX1_add 20 = .ok (.getfield 15, 3) := by decide +kernel
theorem dX1_add_23 : decode cX1_add 23 = .ok (.aload_n 0, 1) := by decide +kernel
theorem dX1_add_24 : decode cX1_add 24 = .ok (.getfield 21, 3) := by decide +kernel
theorem dX1_add_27 : decode cX1_add 27 = .ok (.iload_n 1, 1) := by decide +kernel
theorem dX1_add_28 : decode cX1_add 28 = .ok (.sipush 255, 3) := by decide +kernel
theorem dX1_add_31 : decode cX1_add 31 = .ok (.iand, 1) := by decide +kernel
theorem dX1_add_32 : decode cX1_add 32 = .ok (.iastore, 1) := by decide +kernel
theorem dX1_add_33 : decode cX1_add 33 = .ok (.aload_n 0, 1) := by decide +kernel
theorem dX1_add_34 : decode cX1_add 34 = .ok (.dup, 1) := by decide +kernel
theorem dX1_add_35 : decode cX1_add 35 = .ok (.getfield 21, 3) := by decide +kernel
theorem dX1_add_38 : decode cX1_add 38 = .ok (.iconst 1, 1) := by decide +kernel
theorem dX1_add_39 : decode cX1_add 39 = .ok (.iadd, 1) := by decide +kernel
theorem dX1_add_40 : decode cX1_add 40 = .ok (.putfield 21, 3) := by decide +kernel
theorem dX1_add_43 : decode cX1_add 43 = .ok (.return_, 1) := by decide +kernel
theorem dX1_addFour_0 : decode cX1_addFour 0 = .ok (.aload_n 0, 1) := by decide +kernel
theorem dX1_addFour_1 : decode cX1_addFour 1 = .ok (.iload_n 1, 1) := by decide +kernel
theorem dX1_addFour_2 : decode cX1_addFour 2 = .ok (.bipush 24, 2) := by decide +kernel
theorem dX1_addFour_4 : decode cX1_addFour 4 = .ok (.ishr, 1) := by decide +kernel
theorem dX1_addFour_5 : decode cX1_addFour 5 = .ok (.invokevirtual 25, 3) := by decide +kernel
theorem dX1_addFour_8 : decode cX1_addFour 8 = .ok (.aload_n 0, 1) := by decide +kernel
theorem dX1_addFour_9 : decode cX1_addFour 9 = .ok (.iload_n 1, 1) := by decide +kernel
theorem dX1_addFour_10 : decode cX1_addFour 10 = .ok (.bipush 16, 2) := by decide +kernel
theorem dX1_addFour_12 : decode cX1_addFour 12 = .ok (.ishr, 1) := by decide +kernel
theorem dX1_addFour_13 : decode cX1_addFour 13 = .ok (.invokevirtual 25, 3) := by decide +kernel
theorem dX1_addFour_16 : decode cX1_addFour 16 = .ok (.aload_n 0, 1) := by decide +kernel
theorem dX1_addFour_17 : decode cX1_addFour 17 = .ok (.iload_n 1, 1) := by decide +kernel
theorem dX1_addFour_18 : decode cX1_addFour 18 = .ok (.bipush 8, 2) := by decide +kernel
theorem dX1_addFour_20 : decode cX1_addFour 20 = .ok (.ishr, 1) := by decide +kernel
theorem dX1_addFour_21 : decode cX1_addFour 21 = .ok (.invokevirtual 25, 3) := by decide +kernel
theorem dX1_addFour_24 : decode cX1_addFour 24 = .ok (.aload_n 0, 1) := by decide +kernel
theorem dX1_addFour_25 : decode cX1_addFour 25 = .ok (.iload_n 1, 1) := by decide +kernel
theorem dX1_addFour_26 : decode cX1_addFour 26 = .ok (.invokevirtual 25, 3) := by decide +kernel
theorem dX1_addFour_29 : decode cX1_addFour 29 = .ok (.return_, 1) := by decide +kernel
theorem dX1_addNumber_0 : decode cX1_addNumber 0 = .ok (.iload_n 1, 1) := by decide +kernel
theorem dX1_addNumber_1 : decode cX1_addNumber 1 = .ok (.bipush 10, 2) := by decide +kernel
theorem dX1_addNumber_3 : decode cX1_addNumber 3 = .ok (.if_icmp .lt 17, 3) := by decide +kernel
theorem dX1_addNumber_6 : decode cX1_addNumber 6 = .ok (.aload_n 0, 1) := by decide +kernel
theorem dX1_addNumber_7 : decode cX1_addNumber 7 = .ok (.bipush 48, 2) := by decide +kernel
theorem dX1_addNumber_9 : decode cX1_addNumber 9 = .ok (.iload_n 1, 1) := by decide +kernel
theorem dX1_addNumber_10 : decode cX1_addNumber 10 = .ok (.bipush 10, 2) := by decide +kernel
theorem dX1_addNumber_12 : decode cX1_addNumber 12 = .ok (.idiv, 1) := by decide +kernel
theorem dX1_addNumber_13 : decode cX1_addNumber 13 = .ok (.bipush 10, 2) := by decide +kernel
theorem dX1_addNumber_15 : decode cX1_addNumber 15 = .ok (.irem, 1) := by decide +kernel
theorem dX1_addNumber_16 : decode cX1_addNumber 16 = .ok (.iadd, 1) := by decide +kernel
theorem dX1_addNumber_17 : decode cX1_addNumber 17 = .ok (.invokevirtual 25, 3) := by decide +kernel
theorem dX1_addNumber_20 : decode cX1_addNumber 20 = .ok (.aload_n 0, 1) := by decide +kernel
theorem dX1_addNumber_21 : decode cX1_addNumber 21 = .ok (.bipush 48, 2) := by decide +kernel
theorem dX1_addNumber_23 : decode cX1_addNumber 23 = .ok (.iload_n 1, 1) := by decide +kernel
theorem dX1_addNumber_24 : decode cX1_addNumber 24 = .ok (.bipush 10, 2) := by decide +kernel
theorem dX1_addNumber_26 : decode cX1_addNumber 26 = .ok (.irem, 1) := by decide +kernel
theorem dX1_addNumber_27 : decode cX1_addNumber 27 = .ok (.iadd, 1) := by decide +kernel
theorem dX1_addNumber_28 : decode cX1_addNumber 28 = .ok (.invokevirtual 25, 3) := by decide +kernel
theorem dX1_addNumber_31 : decode cX1_addNumber 31 = .ok (.return_, 1) := by decide +kernel
theorem dX1_addName_0 : decode cX1_addName 0 = .ok (.iconst 0, 1) := by decide +kernel
theorem dX1_addName_1 : decode cX1_addName 1 = .ok (.istore_n 2, 1) := by decide +kernel
theorem dX1_addName_2 : decode cX1_addName 2 = .ok (.iload_n 2, 1) := by decide +kernel
theorem dX1_addName_3 : decode cX1_addName 3 = .ok (.bipush 6, 2) := by decide +kernel
theorem dX1_addName_5 : decode cX1_addName 5 = .ok (.if_icmp .ge 27, 3) := by decide +kernel
theorem dX1_addName_8 : decode cX1_addName 8 = .ok (.iload_n 1, 1) := by decide +kernel
theorem dX1_addName_9 : decode cX1_addName 9 = .ok (.iload_n 2, 1) := by decide +kernel
theorem dX1_addName_10 : decode cX1_addName 10 = .ok (.invokestatic 29, 3) := by decide +kernel
theorem dX1_addName_13 : decode cX1_addName 13 = .ok (.istore_n 3, 1) := by decide +kernel
theorem dX1_addName_14 : decode cX1_addName 14 = .ok (.iload_n 3, 1) := by decide +kernel
theorem dX1_addName_15 : decode cX1_addName 15 = .ok (.ifCond .le 11, 3) := by decide +kernel
theorem dX1_addName_18 : decode cX1_addName 18 = .ok (.aload_n 0, 1) := by decide +kernel
theorem dX1_addName_19 : decode cX1_addName 19 = .ok (.bipush 96, 2) := by decide +kernel
theorem dX1_addName_21 : decode cX1_addName 21 = .ok (.iload_n 3, 1) := by decide +kernel
theorem dX1_addName_22 : decode cX1_addName 22 = .ok (.iadd, 1) := by decide +kernel
theorem dX1_addName_23 : decode cX1_addName 23 = .ok (.invokevirtual 25, 3) := by decide +kernel
theorem dX1_addName_26 : decode cX1_addName 26 = .ok (.iinc 2 1, 3) := by decide +kernel
theorem dX1_addName_29 : decode cX1_addName 29 = .ok (.goto (-27), 3) := by decide +kernel
theorem dX1_addName_32 : decode cX1_addName 32 = .ok (.return_, 1) := by decide +kernel
theorem dX1_byteAt_0 : decode cX1_byteAt 0 = .ok (.iload_n 1, 1) := by decide +kernel
theorem dX1_byteAt_1 : decode cX1_byteAt 1 = .ok (.ifCond .lt 29, 3) := by decide +kernel
theorem dX1_byteAt_4 : decode cX1_byteAt 4 = .ok (.iload_n 1, 1) := by decide +kernel
theorem dX1_byteAt_5 : decode cX1_byteAt 5 = .ok (.aload_n 0, 1) := by decide +kernel
theorem dX1_byteAt_6 : decode cX1_byteAt 6 = .ok (.getfield 21, 3) := by decide +kernel
theorem dX1_byteAt_9 : decode cX1_byteAt 9 = .ok (.if_icmp .ge 21, 3) := by decide +kernel
theorem dX1_byteAt_12 : decode cX1_byteAt 12 = .ok (.iload_n 1, 1) := by decide +kernel
theorem dX1_byteAt_13 : decode cX1_byteAt 13 = .ok (.aload_n 0, 1) := by decide +kernel
theorem dX1_byteAt_14 : decode cX1_byteAt 14 = .ok (.getfield 15, 3) := by decide +kernel
theorem dX1_byteAt_17 : decode cX1_byteAt 17 = .ok (.arraylength, 1) := by decide +kernel
theorem dX1_byteAt_18 : decode cX1_byteAt 18 = .ok (.if_icmp .ge 12, 3) := by decide +kernel
theorem dX1_byteAt_21 : decode cX1_byteAt 21 = .ok (.aload_n 0, 1) := by decide +kernel
theorem dX1_byteAt_22 : decode cX1_byteAt 22 = .ok (.getfield 15, 3) := by decide +kernel
theorem dX1_byteAt_25 : decode cX1_byteAt 25 = .ok (.iload_n 1, 1) := by decide +kernel
theorem dX1_byteAt_26 : decode cX1_byteAt 26 = .ok (.iaload, 1) := by decide +kernel
theorem dX1_byteAt_27 : decode cX1_byteAt 27 = .ok (.goto 4, 3) := by decide +kernel
theorem dX1_byteAt_30 : decode cX1_byteAt 30 = .ok (.iconst (-1), 1) := by decide +kernel
theorem dX1_byteAt_31 : decode cX1_byteAt 31 = .ok (.ireturn, 1) := by decide +kernel
theorem dX1_checkByte_0 : decode cX1_checkByte 0 = .ok (.sipush 199, 3) := by decide +kernel
theorem dX1_checkByte_3 : decode cX1_checkByte 3 = .ok (.istore_n 2, 1) := by decide +kernel
theorem dX1_checkByte_4 : decode cX1_checkByte 4 = .ok (.iconst 0, 1) := by decide +kernel
theorem dX1_checkByte_5 : decode cX1_checkByte 5 = .ok (.istore_n 3, 1) := by decide +kernel
theorem dX1_checkByte_6 : decode cX1_checkByte 6 = .ok (.iload_n 3, 1) := by decide +kernel
theorem dX1_checkByte_7 : decode cX1_checkByte 7 = .ok (.iload_n 1, 1) := by decide +kernel
theorem dX1_checkByte_8 : decode cX1_checkByte 8 = .ok (.if_icmp .ge 33, 3) := by decide +kernel
theorem dX1_checkByte_11 : decode cX1_checkByte 11 = .ok (.iload_n 3, 1) := by decide +kernel
theorem dX1_checkByte_12 : decode cX1_checkByte 12 = .ok (.aload_n 0, 1) := by decide +kernel
theorem dX1_checkByte_13 : decode cX1_checkByte 13 = .ok (.getfield 15, 3) := by decide +kernel
theorem dX1_checkByte_16 : decode cX1_checkByte 16 = .ok (.arraylength, 1) := by decide +kernel
theorem dX1_checkByte_17 : decode cX1_checkByte 17 = .ok (.if_icmp .ge 24, 3) := by decide +kernel
theorem dX1_checkByte_20 : decode cX1_checkByte 20 = .ok (.iconst 5, 1) := by decide +kernel
theorem dX1_checkByte_21 : decode cX1_checkByte 21 = .ok (.iload_n 2, 1) := by decide +kernel
theorem dX1_checkByte_22 : decode cX1_checkByte 22 = .ok (.imul, 1) := by decide +kernel
theorem dX1_checkByte_23 : decode cX1_checkByte 23 = .ok (.aload_n 0, 1) := by decide +kernel
theorem dX1_checkByte_24 : decode cX1_checkByte 24 = .ok (.getfield 15, 3) := by decide +kernel
theorem dX1_checkByte_27 : decode cX1_checkByte 27 = .ok (.iload_n 3, 1) := by decide +kernel
theorem dX1_checkByte_28 : decode cX1_checkByte 28 = .ok (.iaload, 1) := by decide +kernel
theorem dX1_checkByte_29 : decode cX1_checkByte 29 = .ok (.iadd, 1) := by decide +kernel
theorem dX1_checkByte_30 : decode cX1_checkByte 30 = .ok (.sipush 251, 3) := by decide +kernel
theorem dX1_checkByte_33 : decode cX1_checkByte 33 = .ok (.irem, 1) := by decide +kernel
theorem dX1_checkByte_34 : decode cX1_checkByte 34 = .ok (.istore_n 2, 1) := by decide +kernel
theorem dX1_checkByte_35 : decode cX1_checkByte 35 = .ok (.iinc 3 1, 3) := by decide +kernel
theorem dX1_checkByte_38 : decode cX1_checkByte 38 = .ok (.goto (-32), 3) := by decide +kernel
theorem dX1_checkByte_41 : decode cX1_checkByte 41 = .ok (.iload_n 2, 1) := by decide +kernel
theorem dX1_checkByte_42 : decode cX1_checkByte 42 = .ok (.ireturn, 1) := by decide +kernel
theorem dX2_init_0 : decode cX2_init 0 = .ok (.aload_n 0, 1) := by decide +kernel
theorem dX2_init_1 : decode cX2_init 1 = .ok (.invokespecial 3, 3) := by decide +kernel
theorem dX2_init_4 : decode cX2_init 4 = .ok (.aload_n 0, 1) := by decide +kernel
theorem dX2_init_5 : decode cX2_init 5 = .ok (.iload_n 1, 1) := by decide +kernel
theorem dX2_init_6 : decode cX2_init 6 = .ok (.iconst 0, 1) := by decide +kernel
theorem dX2_init_7 : decode cX2_init 7 = .ok (.invokestatic 9, 3) := by decide +kernel
theorem dX2_init_10 : decode cX2_init 10 = .ok (.newarray .int, 2) := by decide +kernel
theorem dX2_init_12 : decode cX2_init 12 = .ok (.putfield 15, 3) := by decide +kernel
theorem dX2_init_15 : decode cX2_init 15 = .ok (.aload_n 0, 1) := by decide +kernel
theorem dX2_init_16 : decode cX2_init 16 = .ok (.iload_n 1, 1) := by decide +kernel
theorem dX2_init_17 : decode cX2_init 17 = .ok (.iconst 0, 1) := by decide +kernel
theorem dX2_init_18 : decode cX2_init 18 = .ok (.invokestatic 9, 3) := by decide +kernel
theorem dX2_init_21 : decode cX2_init 21 = .ok (.newarray .int, 2) := by decide +kernel
theorem dX2_init_23 : decode cX2_init 23 = .ok (.putfield 21, 3) := by decide +kernel
theorem dX2_init_26 : decode cX2_init 26 = .ok (.aload_n 0, 1) := by decide +kernel
theorem dX2_init_27 : decode cX2_init 27 = .ok (.aload_n 2, 1) := by decide +kernel
theorem dX2_init_28 : decode cX2_init 28 = .ok (.putfield 24, 3) := by decide +kernel
theorem dX2_init_31 : decode cX2_init 31 = .ok (.return_, 1) := by decide +kernel
theorem dX2_begin_0 : decode cX2_begin 0 = .ok (.aload_n 0, 1) := by decide +kernel
theorem dX2_begin_1 : decode cX2_begin 1 = .ok (.iconst 0, 1) := by decide +kernel
theorem dX2_begin_2 : decode cX2_begin 2 = .ok (.putfield 28, 3) := by decide +kernel
theorem dX2_begin_5 : decode cX2_begin 5 = .ok (.aload_n 0, 1) := by decide +kernel
theorem dX2_begin_6 : decode cX2_begin 6 = .ok (.getfield 24, 3) := by decide +kernel
theorem dX2_begin_9 : decode cX2_begin 9 = .ok (.invokevirtual 32, 3) := by decide +kernel
theorem dX2_begin_12 : decode cX2_begin 12 = .ok (.return_, 1) := by decide +kernel
theorem dX2_add_0 : decode cX2_add 0 = .ok (.iload_n 1, 1) := by decide +kernel
theorem dX2_add_1 : decode cX2_add 1 = .ok (.ifCond .lt 10, 3) := by decide +kernel
theorem dX2_add_4 : decode cX2_add 4 = .ok (.iload_n 1, 1) := by decide +kernel
theorem dX2_add_5 : decode cX2_add 5 = .ok (.sipush 4096, 3) := by decide +kernel
theorem dX2_add_8 : decode cX2_add 8 = .ok (.if_icmp .lt 4, 3) := by decide +kernel
theorem dX2_add_11 : decode cX2_add 11 = .ok (.return_, 1) := by decide +kernel
theorem dX2_add_12 : decode cX2_add 12 = .ok (.aload_n 0, 1) := by decide +kernel
theorem dX2_add_13 : decode cX2_add 13 = .ok (.getfield 24, 3) := by decide +kernel
theorem dX2_add_16 : decode cX2_add 16 = .ok (.iload_n 1, 1) := by decide +kernel
theorem dX2_add_17 : decode cX2_add 17 = .ok (.invokevirtual 37, 3) := by decide +kernel
theorem dX2_add_20 : decode cX2_add 20 = .ok (.ifCond .eq 59, 3) := by decide +kernel
theorem dX2_add_23 : decode cX2_add 23 = .ok (.aload_n 0, 1) := by decide +kernel
theorem dX2_add_24 : decode cX2_add 24 = .ok (.getfield 28, 3) := by decide +kernel
theorem dX2_add_27 : decode cX2_add 27 = .ok (.aload_n 0, 1) := by decide +kernel
theorem dX2_add_28 : decode cX2_add 28 = .ok (.getfield 15, 3) := by decide +kernel
theorem dX2_add_31 : decode cX2_add 31 = .ok (.arraylength, 1) := by decide +kernel
theorem dX2_add_32 : decode cX2_add 32 = .ok (.if_icmp .ge 46, 3) := by decide +kernel
theorem dX2_add_35 : decode cX2_add 35 = .ok (.aload_n 0, 1) := by decide +kernel
theorem dX2_add_36 : decode cX2_add 36 = .ok (.getfield 24, 3) := by decide +kernel
theorem dX2_add_39 : decode cX2_add 39 = .ok (.getfield 41, 3) := by decide +kernel
theorem dX2_add_42 : decode cX2_add 42 = .ok (.iload_n 1, 1) := by decide +kernel
theorem dX2_add_43 : decode cX2_add 43 = .ok (.aload_n 0, 1) := by decide +kernel
theorem dX2_add_44 : decode cX2_add 44 = .ok (.getfield 28, 3) := by decide +kernel
theorem dX2_add_47 : decode cX2_add 47 = .ok (.iastore, 1) := by decide +kernel
theorem dX2_add_48 : decode cX2_add 48 = .ok (.aload_n 0, 1) := by decide +kernel
theorem dX2_add_49 : decode cX2_add 49 = .ok (.getfield 15, 3) := by decide +kernel
theorem dX2_add_52 : decode cX2_add 52 = .ok (.aload_n 0, 1) := by decide +kernel
theorem dX2_add_53 : decode cX2_add 53 = .ok (.getfield 28, 3) := by decide +kernel
theorem dX2_add_56 : decode cX2_add 56 = .ok (.iload_n 1, 1) := by decide +kernel
theorem dX2_add_57 : decode cX2_add 57 = .ok (.iastore, 1) := by decide +kernel
theorem dX2_add_58 : decode cX2_add 58 = .ok (.aload_n 0, 1) := by decide +kernel
theorem dX2_add_59 : decode cX2_add 59 = .ok (.getfield 21, 3) := by decide +kernel
theorem dX2_add_62 : decode cX2_add 62 = .ok (.aload_n 0, 1) := by decide +kernel
theorem dX2_add_63 : decode cX2_add 63 = .ok (.getfield 28, 3) := by decide +kernel
theorem dX2_add_66 : decode cX2_add 66 = .ok (.iload_n 2, 1) := by decide +kernel
theorem dX2_add_67 : decode cX2_add 67 = .ok (.iastore, 1) := by decide +kernel
theorem dX2_add_68 : decode cX2_add 68 = .ok (.aload_n 0, 1) := by decide +kernel
theorem dX2_add_69 : decode cX2_add 69 = .ok (.dup, 1) := by decide +kernel
theorem dX2_add_70 : decode cX2_add 70 = .ok (.getfield 28, 3) := by decide +kernel
theorem dX2_add_73 : decode cX2_add 73 = .ok (.iconst 1, 1) := by decide +kernel
theorem dX2_add_74 : decode cX2_add 74 = .ok (.iadd, 1) := by decide +kernel
theorem dX2_add_75 : decode cX2_add 75 = .ok (.putfield 28, 3) := by decide +kernel
theorem dX2_add_78 : decode cX2_add 78 = .ok (.return_, 1) := by decide +kernel
theorem dX2_add_79 : decode cX2_add 79 = .ok (.aload_n 0, 1) := by decide +kernel
theorem dX2_add_80 : decode cX2_add 80 = .ok (.getfield 24, 3) := by decide +kernel
theorem dX2_add_83 : decode cX2_add 83 = .ok (.getfield 41, 3) := by decide +kernel
theorem dX2_add_86 : decode cX2_add 86 = .ok (.iload_n 1, 1) := by decide +kernel
theorem dX2_add_87 : decode cX2_add 87 = .ok (.iaload, 1) := by decide +kernel
theorem dX2_add_88 : decode cX2_add 88 = .ok (.istore_n 3, 1) := by decide +kernel
theorem dX2_add_89 : decode cX2_add 89 = .ok (.iload_n 3, 1) := by decide +kernel
theorem dX2_add_90 : decode cX2_add 90 = .ok (.ifCond .lt 21, 3) := by decide +kernel
theorem dX2_add_93 : decode cX2_add 93 = .ok (.iload_n 3, 1) := by decide +kernel
theorem dX2_add_94 : decode cX2_add 94 = .ok (.aload_n 0, 1) := by decide +kernel
theorem dX2_add_95 : decode cX2_add 95 = .ok (.getfield 28, 3) := by decide +kernel
theorem dX2_add_98 : decode cX2_add 98 = .ok (.if_icmp .ge 13, 3) := by decide +kernel
theorem dX2_add_101 : decode cX2_add 101 = .ok (.aload_n 0, 1) := by decide +kernel
theorem dX2_add_102 : decode cX2_add 102 = .ok (.getfield 21, 3) := by decide +kernel
theorem dX2_add_105 : decode cX2_add 105 = .ok (.iload_n 3, 1) := by decide +kernel
theorem dX2_add_106 : decode cX2_add 106 = .ok (.dup2, 1) := by decide +kernel
theorem dX2_add_107 : decode cX2_add 107 = .ok (.iaload, 1) := by decide +kernel
theorem dX2_add_108 : decode cX2_add 108 = .ok (.iload_n 2, 1) := by decide +kernel
theorem dX2_add_109 : decode cX2_add 109 = .ok (.iadd, 1) := by decide +kernel
theorem dX2_add_110 : decode cX2_add 110 = .ok (.iastore, 1) := by decide +kernel
theorem dX2_add_111 : decode cX2_add 111 = .ok (.return_, 1) := by decide +kernel
theorem dX2_addParts_0 : decode cX2_addParts 0 = .ok (.iconst 0, 1) := by decide +kernel
theorem dX2_addParts_1 : decode cX2_addParts 1 = .ok (.istore_n 3, 1) := by decide +kernel
theorem dX2_addParts_2 : decode cX2_addParts 2 = .ok (.iload_n 3, 1) := by decide +kernel
theorem dX2_addParts_3 : decode cX2_addParts 3 = .ok (.aload_n 1, 1) := by decide +kernel
theorem dX2_addParts_4 : decode cX2_addParts 4 = .ok (.getfield 28, 3) := by decide +kernel
theorem dX2_addParts_7 : decode cX2_addParts 7 = .ok (.if_icmp .ge 27, 3) := by decide +kernel
theorem dX2_addParts_10 : decode cX2_addParts 10 = .ok (.aload_n 0, 1) := by decide +kernel
theorem dX2_addParts_11 : decode cX2_addParts 11 = .ok (.aload_n 1, 1) := by decide +kernel
theorem dX2_addParts_12 : decode cX2_addParts 12 = .ok (.getfield 15, 3) := by decide +kernel
theorem dX2_addParts_15 : decode cX2_addParts 15 = .ok (.iload_n 3, 1) := by decide +kernel
theorem dX2_addParts_16 : decode cX2_addParts 16 = .ok (.iaload, 1) := by decide +kernel
theorem dX2_addParts_17 : decode cX2_addParts 17 = .ok (.iload_n 2, 1) := by decide +kernel
theorem dX2_addParts_18 : decode cX2_addParts 18 = .ok (.iand, 1) := by decide +kernel
theorem dX2_addParts_19 : decode cX2_addParts 19 = .ok (.aload_n 1, 1) := by decide +kernel
theorem dX2_addParts_20 : decode cX2_addParts 20 = .ok (.getfield 21, 3) := by decide +kernel
theorem dX2_addParts_23 : decode cX2_addParts 23 = .ok (.iload_n 3, 1) := by decide +kernel
theorem dX2_addParts_24 : decode cX2_addParts 24 = .ok (.iaload, 1) := by decide +kernel
theorem dX2_addParts_25 : decode cX2_addParts 25 = .ok (.invokevirtual 44, 3) := by decide +kernel
theorem dX2_addParts_28 : decode cX2_addParts 28 = .ok (.iinc 3 1, 3) := by decide +kernel
theorem dX2_addParts_31 : decode cX2_addParts 31 = .ok (.goto (-29), 3) := by decide +kernel
theorem dX2_addParts_34 : decode cX2_addParts 34 = .ok (.return_, 1) := by decide +kernel
theorem dX2_addProducts_0 : decode cX2_addProducts 0 = .ok (.iconst 0, 1) := by decide +kernel
theorem dX2_addProducts_1 : decode cX2_addProducts 1 = .ok (.istore_n 3, 1) := by decide +kernel
theorem dX2_addProducts_2 : decode cX2_addProducts 2 = .ok (.iload_n 3, 1) := by decide +kernel
theorem dX2_addProducts_3 : decode cX2_addProducts 3 = .ok (.aload_n 1, 1) := by decide +kernel
theorem dX2_addProducts_4 : decode cX2_addProducts 4 = .ok (.getfield 28, 3) := by decide +kernel
theorem dX2_addProducts_7 : decode cX2_addProducts 7 = .ok (.if_icmp .ge 59, 3) := by decide +kernel
theorem dX2_addProducts_10 : decode cX2_addProducts 10 = .ok (.iconst 0, 1) := by decide +kernel
theorem dX2_addProducts_11 : decode cX2_addProducts 11 = .ok (.istore 4, 2) := by decide +kernel
theorem dX2_addProducts_13 : decode cX2_addProducts 13 = .ok (.iload 4, 2) := by decide +kernel
