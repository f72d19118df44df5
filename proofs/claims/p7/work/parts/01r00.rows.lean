section
theorem dX0_init_0 : decode cX0_init 0 = .ok (.aload_n 0, 1) := by decide +kernel
theorem dX0_init_1 : decode cX0_init 1 = .ok (.invokespecial 3, 3) := by decide +kernel
theorem dX0_init_4 : decode cX0_init 4 = .ok (.aload_n 0, 1) := by decide +kernel
theorem dX0_init_5 : decode cX0_init 5 = .ok (.sipush 1024, 3) := by decide +kernel
theorem dX0_init_8 : decode cX0_init 8 = .ok (.newarray .int, 2) := by decide +kernel
theorem dX0_init_10 : decode cX0_init 10 = .ok (.putfield 9, 3) := by decide +kernel
theorem dX0_init_13 : decode cX0_init 13 = .ok (.aload_n 0, 1) := by decide +kernel
theorem dX0_init_14 : decode cX0_init 14 = .ok (.sipush 1024, 3) := by decide +kernel
theorem dX0_init_17 : decode cX0_init 17 = .ok (.newarray .int, 2) := by decide +kernel
theorem dX0_init_19 : decode cX0_init 19 = .ok (.putfield 15, 3) := by decide +kernel
theorem dX0_init_22 : decode cX0_init 22 = .ok (.aload_n 0, 1) := by decide +kernel
theorem dX0_init_23 : decode cX0_init 23 = .ok (.sipush 1024, 3) := by decide +kernel
theorem dX0_init_26 : decode cX0_init 26 = .ok (.newarray .int, 2) := by decide +kernel
theorem dX0_init_28 : decode cX0_init 28 = .ok (.putfield 18, 3) := by decide +kernel
theorem dX0_init_31 : decode cX0_init 31 = .ok (.aload_n 0, 1) := by decide +kernel
theorem dX0_init_32 : decode cX0_init 32 = .ok (.bipush 20, 2) := by decide +kernel
theorem dX0_init_34 : decode cX0_init 34 = .ok (.anewarray 21, 3) := by decide +kernel
theorem dX0_init_37 : decode cX0_init 37 = .ok (.putfield 23, 3) := by decide +kernel
theorem dX0_init_40 : decode cX0_init 40 = .ok (.aload_n 0, 1) := by decide +kernel
theorem dX0_init_41 : decode cX0_init 41 = .ok (.bipush 20, 2) := by decide +kernel
theorem dX0_init_43 : decode cX0_init 43 = .ok (.newarray .int, 2) := by decide +kernel
theorem dX0_init_45 : decode cX0_init 45 = .ok (.putfield 27, 3) := by decide +kernel
theorem dX0_init_48 : decode cX0_init 48 = .ok (.iconst 0, 1) := by decide +kernel
theorem dX0_init_49 : decode cX0_init 49 = .ok (.istore_n 1, 1) := by decide +kernel
theorem dX0_init_50 : decode cX0_init 50 = .ok (.iload_n 1, 1) := by decide +kernel
theorem dX0_init_51 : decode cX0_init 51 = .ok (.bipush 20, 2) := by decide +kernel
theorem dX0_init_53 : decode cX0_init 53 = .ok (.if_icmp .ge 22, 3) := by decide +kernel
theorem dX0_init_56 : decode cX0_init 56 = .ok (.aload_n 0, 1) := by decide +kernel
theorem dX0_init_57 : decode cX0_init 57 = .ok (.getfield 23, 3) := by decide +kernel
theorem dX0_init_60 : decode cX0_init 60 = .ok (.iload_n 1, 1) := by decide +kernel
theorem dX0_init_61 : decode cX0_init 61 = .ok (.new 21, 3) := by decide +kernel
theorem dX0_init_64 : decode cX0_init 64 = .ok (.dup, 1) := by decide +kernel
theorem dX0_init_65 : decode cX0_init 65 = .ok (.invokespecial 30, 3) := by decide +kernel
theorem dX0_init_68 : decode cX0_init 68 = .ok (.aastore, 1) := by decide +kernel
theorem dX0_init_69 : decode cX0_init 69 = .ok (.iinc 1 1, 3) := by decide +kernel
theorem dX0_init_72 : decode cX0_init 72 = .ok (.goto (-22), 3) := by decide +kernel
theorem dX0_init_75 : decode cX0_init 75 = .ok (.return_, 1) := by decide +kernel
theorem dX0_clear_0 : decode cX0_clear 0 = .ok (.aload_n 0, 1) := by decide +kernel
theorem dX0_clear_1 : decode cX0_clear 1 = .ok (.iconst 0, 1) := by decide +kernel
theorem dX0_clear_2 : decode cX0_clear 2 = .ok (.putfield 31, 3) := by decide +kernel
theorem dX0_clear_5 : decode cX0_clear 5 = .ok (.aload_n 0, 1) := by decide +kernel
theorem dX0_clear_6 : decode cX0_clear 6 = .ok (.iconst 0, 1) := by decide +kernel
theorem dX0_clear_7 : decode cX0_clear 7 = .ok (.putfield 35, 3) := by decide +kernel
theorem dX0_clear_10 : decode cX0_clear 10 = .ok (.return_, 1) := by decide +kernel
theorem dX0_keptTold_0 : decode cX0_keptTold 0 = .ok (.aload_n 0, 1) := by decide +kernel
theorem dX0_keptTold_1 : decode cX0_keptTold 1 = .ok (.getfield 31, 3) := by decide +kernel
theorem dX0_keptTold_4 : decode cX0_keptTold 4 = .ok (.bipush 40, 2) := by decide +kernel
theorem dX0_keptTold_6 : decode cX0_keptTold 6 = .ok (.invokestatic 38, 3) := by decide +kernel
theorem dX0_keptTold_9 : decode cX0_keptTold 9 = .ok (.ireturn, 1) := by decide +kernel
theorem dX0_keep_0 : decode cX0_keep 0 = .ok (.aload_n 0, 1) := by decide +kernel
theorem dX0_keep_1 : decode cX0_keep 1 = .ok (.getfield 31, 3) := by decide +kernel
theorem dX0_keep_4 : decode cX0_keep 4 = .ok (.sipush 1024, 3) := by decide +kernel
theorem dX0_keep_7 : decode cX0_keep 7 = .ok (.invokestatic 44, 3) := by decide +kernel
theorem dX0_keep_10 : decode cX0_keep 10 = .ok (.istore 4, 2) := by decide +kernel
theorem dX0_keep_12 : decode cX0_keep 12 = .ok (.aload_n 0, 1) := by decide +kernel
theorem dX0_keep_13 : decode cX0_keep 13 = .ok (.getfield 9, 3) := by decide +kernel
theorem dX0_keep_16 : decode cX0_keep 16 = .ok (.iload 4, 2) := by decide +kernel
theorem dX0_keep_18 : decode cX0_keep 18 = .ok (.iload_n 1, 1) := by decide +kernel
theorem dX0_keep_19 : decode cX0_keep 19 = .ok (.iastore, 1) := by decide +kernel
theorem dX0_keep_20 : decode cX0_keep 20 = .ok (.aload_n 0, 1) := by decide +kernel
theorem dX0_keep_21 : decode cX0_keep 21 = .ok (.getfield 15, 3) := by decide +kernel
theorem dX0_keep_24 : decode cX0_keep 24 = .ok (.iload 4, 2) := by decide +kernel
theorem dX0_keep_26 : decode cX0_keep 26 = .ok (.iload_n 2, 1) := by decide +kernel
theorem dX0_keep_27 : decode cX0_keep 27 = .ok (.iastore, 1) := by decide +kernel
theorem dX0_keep_28 : decode cX0_keep 28 = .ok (.aload_n 0, 1) := by decide +kernel
theorem dX0_keep_29 : decode cX0_keep 29 = .ok (.getfield 18, 3) := by decide +kernel
theorem dX0_keep_32 : decode cX0_keep 32 = .ok (.iload 4, 2) := by decide +kernel
theorem dX0_keep_34 : decode cX0_keep 34 = .ok (.iload_n 3, 1) := by decide +kernel
theorem dX0_keep_35 : decode cX0_keep 35 = .ok (.iastore, 1) := by decide +kernel
theorem dX0_keep_36 : decode cX0_keep 36 = .ok (.aload_n 0, 1) := by decide +kernel
theorem dX0_keep_37 : decode cX0_keep 37 = .ok (.dup, 1) := by decide +kernel
theorem dX0_keep_38 : decode cX0_keep 38 = .ok (.getfield 31, 3) := by decide +kernel
theorem dX0_keep_41 : decode cX0_keep 41 = .ok (.iconst 1, 1) := by decide +kernel
theorem dX0_keep_42 : decode cX0_keep 42 = .ok (.iadd, 1) := by decide +kernel
theorem dX0_keep_43 : decode cX0_keep 43 = .ok (.putfield 31, 3) := by decide +kernel
theorem dX0_keep_46 : decode cX0_keep 46 = .ok (.return_, 1) := by decide +kernel
theorem dX0_tellKept_0 : decode cX0_tellKept 0 = .ok (.iload_n 1, 1) := by decide +kernel
theorem dX0_tellKept_1 : decode cX0_tellKept 1 = .ok (.ifCond .lt 11, 3) := by decide +kernel
theorem dX0_tellKept_4 : decode cX0_tellKept 4 = .ok (.iload_n 1, 1) := by decide +kernel
theorem dX0_tellKept_5 : decode cX0_tellKept 5 = .ok (.aload_n 0, 1) := by decide +kernel
theorem dX0_tellKept_6 : decode cX0_tellKept 6 = .ok (.invokevirtual 47, 3) := by decide +kernel
theorem dX0_tellKept_9 : decode cX0_tellKept 9 = .ok (.if_icmp .lt 5, 3) := by decide +kernel
theorem dX0_tellKept_12 : decode cX0_tellKept 12 = .ok (.iconst (-1), 1) := by decide +kernel
theorem dX0_tellKept_13 : decode cX0_tellKept 13 = .ok (.ireturn, 1) := by decide +kernel
theorem dX0_tellKept_14 : decode cX0_tellKept 14 = .ok (.aload_n 0, 1) := by decide +kernel
theorem dX0_tellKept_15 : decode cX0_tellKept 15 = .ok (.getfield 31, 3) := by decide +kernel
theorem dX0_tellKept_18 : decode cX0_tellKept 18 = .ok (.aload_n 0, 1) := by decide +kernel
theorem dX0_tellKept_19 : decode cX0_tellKept 19 = .ok (.invokevirtual 47, 3) := by decide +kernel
theorem dX0_tellKept_22 : decode cX0_tellKept 22 = .ok (.isub, 1) := by decide +kernel
theorem dX0_tellKept_23 : decode cX0_tellKept 23 = .ok (.iload_n 1, 1) := by decide +kernel
theorem dX0_tellKept_24 : decode cX0_tellKept 24 = .ok (.iadd, 1) := by decide +kernel
theorem dX0_tellKept_25 : decode cX0_tellKept 25 = .ok (.sipush 1024, 3) := by decide +kernel
theorem dX0_tellKept_28 : decode cX0_tellKept 28 = .ok (.invokestatic 44, 3) := by decide +kernel
theorem dX0_tellKept_31 : decode cX0_tellKept 31 = .ok (.istore_n 3, 1) := by decide +kernel
theorem dX0_tellKept_32 : decode cX0_tellKept 32 = .ok (.iload_n 2, 1) := by decide +kernel
theorem dX0_tellKept_33 : decode cX0_tellKept 33 = .ok (.tableswitch 48 0 2 #[27, 34, 41], 27) := by decide +kernel
theorem dX0_tellKept_60 : decode cX0_tellKept 60 = .ok (.aload_n 0, 1) := by decide +kernel
theorem dX0_tellKept_61 : decode cX0_tellKept 61 = .ok (.getfield 9, 3) := by decide +kernel
theorem dX0_tellKept_64 : decode cX0_tellKept 64 = .ok (.iload_n 3, 1) := by decide +kernel
theorem dX0_tellKept_65 : decode cX0_tellKept 65 = .ok (.iaload, 1) := by decide +kernel
theorem dX0_tellKept_66 : decode cX0_tellKept 66 = .ok (.ireturn, 1) := by decide +kernel
theorem dX0_tellKept_67 : decode cX0_tellKept 67 = .ok (.aload_n 0, 1) := by decide +kernel
theorem dX0_tellKept_68 : decode cX0_tellKept 68 = .ok (.getfield 15, 3) := by decide +kernel
theorem dX0_tellKept_71 : decode cX0_tellKept 71 = .ok (.iload_n 3, 1) := by decide +kernel
theorem dX0_tellKept_72 : decode cX0_tellKept 72 = .ok (.iaload, 1) := by decide +kernel
theorem dX0_tellKept_73 : decode cX0_tellKept 73 = .ok (.ireturn, 1) := by decide +kernel
theorem dX0_tellKept_74 : decode cX0_tellKept 74 = .ok (.aload_n 0, 1) := by decide +kernel
theorem dX0_tellKept_75 : decode cX0_tellKept 75 = .ok (.getfield 18, 3) := by decide +kernel
theorem dX0_tellKept_78 : decode cX0_tellKept 78 = .ok (.iload_n 3, 1) := by decide +kernel
theorem dX0_tellKept_79 : decode cX0_tellKept 79 = .ok (.iaload, 1) := by decide +kernel
theorem dX0_tellKept_80 : decode cX0_tellKept 80 = .ok (.ireturn, 1) := by decide +kernel
theorem dX0_tellKept_81 : decode cX0_tellKept 81 = .ok (.iconst (-1), 1) := by decide +kernel
theorem dX0_tellKept_82 : decode cX0_tellKept 82 = .ok (.ireturn, 1) := by decide +kernel
theorem dX0_remember_0 : decode cX0_remember 0 = .ok (.aload_n 0, 1) := by decide +kernel
theorem dX0_remember_1 : decode cX0_remember 1 = .ok (.getfield 51, 3) := by decide +kernel
theorem dX0_remember_4 : decode cX0_remember 4 = .ok (.bipush 20, 2) := by decide +kernel
theorem dX0_remember_6 : decode cX0_remember 6 = .ok (.invokestatic 44, 3) := by decide +kernel
theorem dX0_remember_9 : decode cX0_remember 9 = .ok (.istore_n 2, 1) := by decide +kernel
theorem dX0_remember_10 : decode cX0_remember 10 = .ok (.aload_n 0, 1) := by decide +kernel
theorem dX0_remember_11 : decode cX0_remember 11 = .ok (.getfield 23, 3) := by decide +kernel
theorem dX0_remember_14 : decode cX0_remember 14 = .ok (.iload_n 2, 1) := by decide +kernel
theorem dX0_remember_15 : decode cX0_remember 15 = .ok (.aaload, 1) := by decide +kernel
theorem dX0_remember_16 : decode cX0_remember 16 = .ok (.aload_n 1, 1) := by decide +kernel
theorem dX0_remember_17 : decode cX0_remember 17 = .ok (.invokevirtual 54, 3) := by decide +kernel
theorem dX0_remember_20 : decode cX0_remember 20 = .ok (.aload_n 0, 1) := by decide +kernel
theorem dX0_remember_21 : decode cX0_remember 21 = .ok (.getfield 27, 3) := by decide +kernel
theorem dX0_remember_24 : decode cX0_remember 24 = .ok (.iload_n 2, 1) := by decide +kernel
theorem dX0_remember_25 : decode cX0_remember 25 = .ok (.aload_n 0, 1) := by decide +kernel
theorem dX0_remember_26 : decode cX0_remember 26 = .ok (.getfield 31, 3) := by decide +kernel
theorem dX0_remember_29 : decode cX0_remember 29 = .ok (.iastore, 1) := by decide +kernel
theorem dX0_remember_30 : decode cX0_remember 30 = .ok (.aload_n 0, 1) := by decide +kernel
theorem dX0_remember_31 : decode cX0_remember 31 = .ok (.iload_n 2, 1) := by decide +kernel
theorem dX0_remember_32 : decode cX0_remember 32 = .ok (.iconst 1, 1) := by decide +kernel
theorem dX0_remember_33 : decode cX0_remember 33 = .ok (.iadd, 1) := by decide +kernel
theorem dX0_remember_34 : decode cX0_remember 34 = .ok (.putfield 51, 3) := by decide +kernel
theorem dX0_remember_37 : decode cX0_remember 37 = .ok (.aload_n 0, 1) := by decide +kernel
theorem dX0_remember_38 : decode cX0_remember 38 = .ok (.aload_n 0, 1) := by decide +kernel
theorem dX0_remember_39 : decode cX0_remember 39 = .ok (.getfield 35, 3) := by decide +kernel
theorem dX0_remember_42 : decode cX0_remember 42 = .ok (.iconst 1, 1) := by decide +kernel
theorem dX0_remember_43 : decode cX0_remember 43 = .ok (.iadd, 1) := by decide +kernel
theorem dX0_remember_44 : decode cX0_remember 44 = .ok (.bipush 20, 2) := by decide +kernel
theorem dX0_remember_46 : decode cX0_remember 46 = .ok (.invokestatic 38, 3) := by decide +kernel
theorem dX0_remember_49 : decode cX0_remember 49 = .ok (.putfield 35, 3) := by decide +kernel
theorem dX0_remember_52 : decode cX0_remember 52 = .ok (.return_, 1) := by decide +kernel
theorem dX0_takeBack_0 : decode cX0_takeBack 0 = .ok (.aload_n 0, 1) := by decide +kernel
theorem dX0_takeBack_1 : decode cX0_takeBack 1 = .ok (.getfield 51, 3) := by decide +kernel
theorem dX0_takeBack_4 : decode cX0_takeBack 4 = .ok (.iconst 1, 1) := by decide +kernel
theorem dX0_takeBack_5 : decode cX0_takeBack 5 = .ok (.isub, 1) := by decide +kernel
theorem dX0_takeBack_6 : decode cX0_takeBack 6 = .ok (.bipush 20, 2) := by decide +kernel
theorem dX0_takeBack_8 : decode cX0_takeBack 8 = .ok (.invokestatic 44, 3) := by decide +kernel
theorem dX0_takeBack_11 : decode cX0_takeBack 11 = .ok (.istore_n 2, 1) := by decide +kernel
theorem dX0_takeBack_12 : decode cX0_takeBack 12 = .ok (.aload_n 1, 1) := by decide +kernel
theorem dX0_takeBack_13 : decode cX0_takeBack 13 = .ok (.aload_n 0, 1) := by decide +kernel
theorem dX0_takeBack_14 : decode cX0_takeBack 14 = .ok (.getfield 23, 3) := by decide +kernel
theorem dX0_takeBack_17 : decode cX0_takeBack 17 = .ok (.iload_n 2, 1) := by decide +kernel
theorem dX0_takeBack_18 : decode cX0_takeBack 18 = .ok (.aaload, 1) := by decide +kernel
theorem dX0_takeBack_19 : decode cX0_takeBack 19 = .ok (.invokevirtual 54, 3) := by decide +kernel
theorem dX0_takeBack_22 : decode cX0_takeBack 22 = .ok (.aload_n 0, 1) := by decide +kernel
theorem dX0_takeBack_23 : decode cX0_takeBack 23 = .ok (.aload_n 0, 1) := by decide +kernel
theorem dX0_takeBack_24 : decode cX0_takeBack 24 = .ok (.getfield 27, 3) := by decide +kernel
theorem dX0_takeBack_27 : decode cX0_takeBack 27 = .ok (.iload_n 2, 1) := by decide +kernel
theorem dX0_takeBack_28 : decode cX0_takeBack 28 = .ok (.iaload, 1) := by decide +kernel
theorem dX0_takeBack_29 : decode cX0_takeBack 29 = .ok (.putfield 31, 3) := by decide +kernel
theorem dX0_takeBack_32 : decode cX0_takeBack 32 = .ok (.aload_n 0, 1) := by decide +kernel
theorem dX0_takeBack_33 : decode cX0_takeBack 33 = .ok (.iload_n 2, 1) := by decide +kernel
theorem dX0_takeBack_34 : decode cX0_takeBack 34 = .ok (.putfield 51, 3) := by decide +kernel
theorem dX0_takeBack_37 : decode cX0_takeBack 37 = .ok (.aload_n 0, 1) := by decide +kernel
theorem dX0_takeBack_38 : decode cX0_takeBack 38 = .ok (.aload_n 0, 1) := by decide +kernel
theorem dX0_takeBack_39 : decode cX0_takeBack 39 = .ok (.getfield 35, 3) := by decide +kernel
theorem dX0_takeBack_42 : decode cX0_takeBack 42 = .ok (.iconst 1, 1) := by decide +kernel
theorem dX0_takeBack_43 : decode cX0_takeBack 43 = .ok (.isub, 1) := by decide +kernel
theorem dX0_takeBack_44 : decode cX0_takeBack 44 = .ok (.iconst 0, 1) := by decide +kernel
theorem dX0_takeBack_45 : decode cX0_takeBack 45 = .ok (.invokestatic 58, 3) := by decide +kernel
theorem dX0_takeBack_48 : decode cX0_takeBack 48 = .ok (.putfield 35, 3) := by decide +kernel
theorem dX0_takeBack_51 : decode cX0_takeBack 51 = .ok (.return_, 1) := by decide +kernel
theorem dX1_init_0 : decode cX1_init 0 = .ok (.aload_n 0, 1) := by decide +kernel
theorem dX1_init_1 : decode cX1_init 1 = .ok (.invokespecial 3, 3) := by decide +kernel
theorem dX1_init_4 : decode cX1_init 4 = .ok (.aload_n 0, 1) := by decide +kernel
theorem dX1_init_5 : decode cX1_init 5 = .ok (.iload_n 1, 1) := by decide +kernel
theorem dX1_init_6 : decode cX1_init 6 = .ok (.iconst 0, 1) := by decide +kernel
theorem dX1_init_7 : decode cX1_init 7 = .ok (.invokestatic 9, 3) := by decide +kernel
theorem dX1_init_10 : decode cX1_init 10 = .ok (.newarray .int, 2) := by decide +kernel
theorem dX1_init_12 : decode cX1_init 12 = .ok (.putfield 15, 3) := by decide +kernel
theorem dX1_init_15 : decode cX1_init 15 = .ok (.return_, 1) := by decide +kernel
theorem dX1_add_0 : decode cX1_add 0 = .ok (.aload_n 0, 1) := by decide +kernel
theorem dX1_add_1 : decode cX1_add 1 = .ok (.getfield 21, 3) := by decide +kernel
theorem dX1_add_4 : decode cX1_add 4 = .ok (.ifCond .lt 39, 3) := by decide +kernel
theorem dX1_add_7 : decode cX1_add 7 = .ok (.aload_n 0, 1) := by decide +kernel
theorem dX1_add_8 : decode cX1_add 8 = .ok (.getfield 21, 3) := by decide +kernel
theorem dX1_add_11 : decode cX1_add 11 = .ok (.aload_n 0, 1) := by decide +kernel
theorem dX1_add_12 : decode cX1_add 12 = .ok (.getfield 15, 3) := by decide +kernel
theorem dX1_add_15 : decode cX1_add 15 = .ok (.arraylength, 1) := by decide +kernel
theorem dX1_add_16 : decode cX1_add 16 = .ok (.if_icmp .ge 27, 3) := by decide +kernel
theorem dX1_add_19 : decode cX1_add 19 = .ok (.aload_n 0, 1) := by decide +kernel
theorem dX1_add_20 : decode cX1_add 20 = .ok (.getfield 15, 3) := by decide +kernel
theorem dX1_add_23 : decode cX1_add 23 = .ok (.aload_n 0, 1) := by decide +kernel
theorem dX1_add_24 : decode cX1_add 24 = .ok (.getfield 21, 3) := by decide +kernel
theorem dX1_add_27 : decode cX1_add 27 = .ok (.iload_n 1, 1) := by decide +kernel
theorem dX1_add_28 : decode cX1_add 28 = .ok (.sipush 255, 3) := by decide +kernel
theorem dX1_add_31 : decode cX1_add 31 = .ok (.iand, 1) := by decide +kernel
theorem dX1_add_32 : decode cX1_add 32 = .ok (.iastore, 1) := by decide +kernel
theorem dX1_add_33 : decode cX1_add 33 = .ok (.aload_n 0, 1) := by decide +kernel
theorem dX1_add_34 : decode cX1_add 34 = .ok (.dup, 1) := by decide +kernel
theorem dX1_add_35 : decode cX1_add 35 = .ok (.getfield 21, 3) := by decide +kernel
theorem dX1_add_38 : decode cX1_add 38 = .ok (.iconst 1, 1) := by decide +kernel
theorem dX1_add_39 : decode cX1_add 39 = .ok (.iadd, 1) := by decide +kernel
theorem dX1_add_40 : decode cX1_add 40 = .ok (.putfield 21, 3) := by decide +kernel
theorem dX1_add_43 : decode cX1_add 43 = .ok (.return_, 1) := by decide +kernel
theorem dX1_addFour_0 : decode cX1_addFour 0 = .ok (.aload_n 0, 1) := by decide +kernel
theorem dX1_addFour_1 : decode cX1_addFour 1 = .ok (.iload_n 1, 1) := by decide +kernel
theorem dX1_addFour_2 : decode cX1_addFour 2 = .ok (.bipush 24, 2) := by decide +kernel
theorem dX1_addFour_4 : decode cX1_addFour 4 = .ok (.ishr, 1) := by decide +kernel
theorem dX1_addFour_5 : decode cX1_addFour 5 = .ok (.invokevirtual 25, 3) := by decide +kernel
theorem dX1_addFour_8 : decode cX1_addFour 8 = .ok (.aload_n 0, 1) := by decide +kernel
theorem dX1_addFour_9 : decode cX1_addFour 9 = .ok (.iload_n 1, 1) := by decide +kernel
theorem dX1_addFour_10 : decode cX1_addFour 10 = .ok (.bipush 16, 2) := by decide +kernel
theorem dX1_addFour_12 : decode cX1_addFour 12 = .ok (.ishr, 1) := by decide +kernel
theorem dX1_addFour_13 : decode cX1_addFour 13 = .ok (.invokevirtual 25, 3) := by decide +kernel
theorem dX1_addFour_16 : decode cX1_addFour 16 = .ok (.aload_n 0, 1) := by decide +kernel
theorem dX1_addFour_17 : decode cX1_addFour 17 = .ok (.iload_n 1, 1) := by decide +kernel
theorem dX1_addFour_18 : decode cX1_addFour 18 = .ok (.bipush 8, 2) := by decide +kernel
theorem dX1_addFour_20 : decode cX1_addFour 20 = .ok (.ishr, 1) := by decide +kernel
theorem dX1_addFour_21 : decode cX1_addFour 21 = .ok (.invokevirtual 25, 3) := by decide +kernel
theorem dX1_addFour_24 : decode cX1_addFour 24 = .ok (.aload_n 0, 1) := by decide +kernel
theorem dX1_addFour_25 : decode cX1_addFour 25 = .ok (.iload_n 1, 1) := by decide +kernel
theorem dX1_addFour_26 : decode cX1_addFour 26 = .ok (.invokevirtual 25, 3) := by decide +kernel
theorem dX1_addFour_29 : decode cX1_addFour 29 = .ok (.return_, 1) := by decide +kernel
theorem dX1_addNumber_0 : decode cX1_addNumber 0 = .ok (.iload_n 1, 1) := by decide +kernel
theorem dX1_addNumber_1 : decode cX1_addNumber 1 = .ok (.bipush 10, 2) := by decide +kernel
theorem dX1_addNumber_3 : decode cX1_addNumber 3 = .ok (.if_icmp .lt 17, 3) := by decide +kernel
theorem dX1_addNumber_6 : decode cX1_addNumber 6 = .ok (.aload_n 0, 1) := by decide +kernel
theorem dX1_addNumber_7 : decode cX1_addNumber 7 = .ok (.bipush 48, 2) := by decide +kernel
theorem dX1_addNumber_9 : decode cX1_addNumber 9 = .ok (.iload_n 1, 1) := by decide +kernel
theorem dX1_addNumber_10 : decode cX1_addNumber 10 = .ok (.bipush 10, 2) := by decide +kernel
theorem dX1_addNumber_12 : decode cX1_addNumber 12 = .ok (.idiv, 1) := by decide +kernel
theorem dX1_addNumber_13 : decode cX1_addNumber 13 = .ok (.bipush 10, 2) := by decide +kernel
theorem dX1_addNumber_15 : decode cX1_addNumber 15 = .ok (.irem, 1) := by decide +kernel
theorem dX1_addNumber_16 : decode cX1_addNumber 16 = .ok (.iadd, 1) := by decide +kernel
theorem dX1_addNumber_17 : decode cX1_addNumber 17 = .ok (.invokevirtual 25, 3) := by decide +kernel
theorem dX1_addNumber_20 : decode cX1_addNumber 20 = .ok (.aload_n 0, 1) := by decide +kernel
theorem dX1_addNumber_21 : decode cX1_addNumber 21 = .ok (.bipush 48, 2) := by decide +kernel
theorem dX1_addNumber_23 : decode cX1_addNumber 23 = .ok (.iload_n 1, 1) := by decide +kernel
theorem dX1_addNumber_24 : decode cX1_addNumber 24 = .ok (.bipush 10, 2) := by decide +kernel
theorem dX1_addNumber_26 : decode cX1_addNumber 26 = .ok (.irem, 1) := by decide +kernel
theorem dX1_addNumber_27 : decode cX1_addNumber 27 = .ok (.iadd, 1) := by decide +kernel
theorem dX1_addNumber_28 : decode cX1_addNumber 28 = .ok (.invokevirtual 25, 3) := by decide +kernel
theorem dX1_addNumber_31 : decode cX1_addNumber 31 = .ok (.return_, 1) := by decide +kernel
theorem dX1_addName_0 : decode cX1_addName 0 = .ok (.iconst 0, 1) := by decide +kernel
theorem dX1_addName_1 : decode cX1_addName 1 = .ok (.istore_n 2, 1) := by decide +kernel
theorem dX1_addName_2 : decode cX1_addName 2 = .ok (.iload_n 2, 1) := by decide +kernel
theorem dX1_addName_3 : decode cX1_addName 3 = .ok (.bipush 6, 2) := by decide +kernel
theorem dX1_addName_5 : decode cX1_addName 5 = .ok (.if_icmp .ge 27, 3) := by decide +kernel
theorem dX1_addName_8 : decode cX1_addName 8 = .ok (.iload_n 1, 1) := by decide +kernel
theorem dX1_addName_9 : decode cX1_addName 9 = .ok (.iload_n 2, 1) := by decide +kernel
theorem dX1_addName_10 : decode cX1_addName 10 = .ok (.invokestatic 29, 3) := by decide +kernel
theorem dX1_addName_13 : decode cX1_addName 13 = .ok (.istore_n 3, 1) := by decide +kernel
theorem dX1_addName_14 : decode cX1_addName 14 = .ok (.iload_n 3, 1) := by decide +kernel
theorem dX1_addName_15 : decode cX1_addName 15 = .ok (.ifCond .le 11, 3) := by decide +kernel
theorem dX1_addName_18 : decode cX1_addName 18 = .ok (.aload_n 0, 1) := by decide +kernel
theorem dX1_addName_19 : decode cX1_addName 19 = .ok (.bipush 96, 2) := by decide +kernel
theorem dX1_addName_21 : decode cX1_addName 21 = .ok (.iload_n 3, 1) := by decide +kernel
theorem dX1_addName_22 : decode cX1_addName 22 = .ok (.iadd, 1) := by decide +kernel
theorem dX1_addName_23 : decode cX1_addName 23 = .ok (.invokevirtual 25, 3) := by decide +kernel
theorem dX1_addName_26 : decode cX1_addName 26 = .ok (.iinc 2 1, 3) := by decide +kernel
theorem dX1_addName_29 : decode cX1_addName 29 = .ok (.goto (-27), 3) := by decide +kernel
theorem dX1_addName_32 : decode cX1_addName 32 = .ok (.return_, 1) := by decide +kernel
theorem dX1_byteAt_0 : decode cX1_byteAt 0 = .ok (.iload_n 1, 1) := by decide +kernel
theorem dX1_byteAt_1 : decode cX1_byteAt 1 = .ok (.ifCond .lt 29, 3) := by decide +kernel
theorem dX1_byteAt_4 : decode cX1_byteAt 4 = .ok (.iload_n 1, 1) := by decide +kernel
theorem dX1_byteAt_5 : decode cX1_byteAt 5 = .ok (.aload_n 0, 1) := by decide +kernel
theorem dX1_byteAt_6 : decode cX1_byteAt 6 = .ok (.getfield 21, 3) := by decide +kernel
theorem dX1_byteAt_9 : decode cX1_byteAt 9 = .ok (.if_icmp .ge 21, 3) := by decide +kernel
theorem dX1_byteAt_12 : decode cX1_byteAt 12 = .ok (.iload_n 1, 1) := by decide +kernel
theorem dX1_byteAt_13 : decode cX1_byteAt 13 = .ok (.aload_n 0, 1) := by decide +kernel
theorem dX1_byteAt_14 : decode cX1_byteAt 14 = .ok (.getfield 15, 3) := by decide +kernel
theorem dX1_byteAt_17 : decode cX1_byteAt 17 = .ok (.arraylength, 1) := by decide +kernel
theorem dX1_byteAt_18 : decode cX1_byteAt 18 = .ok (.if_icmp .ge 12, 3) := by decide +kernel
theorem dX1_byteAt_21 : decode cX1_byteAt 21 = .ok (.aload_n 0, 1) := by decide +kernel
theorem dX1_byteAt_22 : decode cX1_byteAt 22 = .ok (.getfield 15, 3) := by decide +kernel
theorem dX1_byteAt_25 : decode cX1_byteAt 25 = .ok (.iload_n 1, 1) := by decide +kernel
theorem dX1_byteAt_26 : decode cX1_byteAt 26 = .ok (.iaload, 1) := by decide +kernel
theorem dX1_byteAt_27 : decode cX1_byteAt 27 = .ok (.goto 4, 3) := by decide +kernel
theorem dX1_byteAt_30 : decode cX1_byteAt 30 = .ok (.iconst (-1), 1) := by decide +kernel
theorem dX1_byteAt_31 : decode cX1_byteAt 31 = .ok (.ireturn, 1) := by decide +kernel
theorem dX1_checkByte_0 : decode cX1_checkByte 0 = .ok (.sipush 199, 3) := by decide +kernel
theorem dX1_checkByte_3 : decode cX1_checkByte 3 = .ok (.istore_n 2, 1) := by decide +kernel
theorem dX1_checkByte_4 : decode cX1_checkByte 4 = .ok (.iconst 0, 1) := by decide +kernel
theorem dX1_checkByte_5 : decode cX1_checkByte 5 = .ok (.istore_n 3, 1) := by decide +kernel
theorem dX1_checkByte_6 : decode cX1_checkByte 6 = .ok (.iload_n 3, 1) := by decide +kernel
theorem dX1_checkByte_7 : decode cX1_checkByte 7 = .ok (.iload_n 1, 1) := by decide +kernel
theorem dX1_checkByte_8 : decode cX1_checkByte 8 = .ok (.if_icmp .ge 33, 3) := by decide +kernel
theorem dX1_checkByte_11 : decode cX1_checkByte 11 = .ok (.iload_n 3, 1) := by decide +kernel
theorem dX1_checkByte_12 : decode cX1_checkByte 12 = .ok (.aload_n 0, 1) := by decide +kernel
theorem dX1_checkByte_13 : decode cX1_checkByte 13 = .ok (.getfield 15, 3) := by decide +kernel
theorem dX1_checkByte_16 : decode cX1_checkByte 16 = .ok (.arraylength, 1) := by decide +kernel
theorem dX1_checkByte_17 : decode cX1_checkByte 17 = .ok (.if_icmp .ge 24, 3) := by decide +kernel
theorem dX1_checkByte_20 : decode cX1_checkByte 20 = .ok (.iconst 5, 1) := by decide +kernel
theorem dX1_checkByte_21 : decode cX1_checkByte 21 = .ok (.iload_n 2, 1) := by decide +kernel
theorem dX1_checkByte_22 : decode cX1_checkByte 22 = .ok (.imul, 1) := by decide +kernel
theorem dX1_checkByte_23 : decode cX1_checkByte 23 = .ok (.aload_n 0, 1) := by decide +kernel
theorem dX1_checkByte_24 : decode cX1_checkByte 24 = .ok (.getfield 15, 3) := by decide +kernel
theorem dX1_checkByte_27 : decode cX1_checkByte 27 = .ok (.iload_n 3, 1) := by decide +kernel
theorem dX1_checkByte_28 : decode cX1_checkByte 28 = .ok (.iaload, 1) := by decide +kernel
theorem dX1_checkByte_29 : decode cX1_checkByte 29 = .ok (.iadd, 1) := by decide +kernel
theorem dX1_checkByte_30 : decode cX1_checkByte 30 = .ok (.sipush 251, 3) := by decide +kernel
theorem dX1_checkByte_33 : decode cX1_checkByte 33 = .ok (.irem, 1) := by decide +kernel
theorem dX1_checkByte_34 : decode cX1_checkByte 34 = .ok (.istore_n 2, 1) := by decide +kernel
theorem dX1_checkByte_35 : decode cX1_checkByte 35 = .ok (.iinc 3 1, 3) := by decide +kernel
theorem dX1_checkByte_38 : decode cX1_checkByte 38 = .ok (.goto (-32), 3) := by decide +kernel
theorem dX1_checkByte_41 : decode cX1_checkByte 41 = .ok (.iload_n 2, 1) := by decide +kernel
theorem dX1_checkByte_42 : decode cX1_checkByte 42 = .ok (.ireturn, 1) := by decide +kernel
theorem dX2_init_0 : decode cX2_init 0 = .ok (.aload_n 0, 1) := by decide +kernel
theorem dX2_init_1 : decode cX2_init 1 = .ok (.invokespecial 3, 3) := by decide +kernel
theorem dX2_init_4 : decode cX2_init 4 = .ok (.aload_n 0, 1) := by decide +kernel
theorem dX2_init_5 : decode cX2_init 5 = .ok (.iload_n 1, 1) := by decide +kernel
theorem dX2_init_6 : decode cX2_init 6 = .ok (.iconst 0, 1) := by decide +kernel
theorem dX2_init_7 : decode cX2_init 7 = .ok (.invokestatic 9, 3) := by decide +kernel
theorem dX2_init_10 : decode cX2_init 10 = .ok (.newarray .int, 2) := by decide +kernel
theorem dX2_init_12 : decode cX2_init 12 = .ok (.putfield 15, 3) := by decide +kernel
theorem dX2_init_15 : decode cX2_init 15 = .ok (.aload_n 0, 1) := by decide +kernel
theorem dX2_init_16 : decode cX2_init 16 = .ok (.iload_n 1, 1) := by decide +kernel
theorem dX2_init_17 : decode cX2_init 17 = .ok (.iconst 0, 1) := by decide +kernel
theorem dX2_init_18 : decode cX2_init 18 = .ok (.invokestatic 9, 3) := by decide +kernel
theorem dX2_init_21 : decode cX2_init 21 = .ok (.newarray .int, 2) := by decide +kernel
theorem dX2_init_23 : decode cX2_init 23 = .ok (.putfield 21, 3) := by decide +kernel
theorem dX2_init_26 : decode cX2_init 26 = .ok (.aload_n 0, 1) := by decide +kernel
theorem dX2_init_27 : decode cX2_init 27 = .ok (.aload_n 2, 1) := by decide +kernel
theorem dX2_init_28 : decode cX2_init 28 = .ok (.putfield 24, 3) := by decide +kernel
theorem dX2_init_31 : decode cX2_init 31 = .ok (.return_, 1) := by decide +kernel
theorem dX2_begin_0 : decode cX2_begin 0 = .ok (.aload_n 0, 1) := by decide +kernel
theorem dX2_begin_1 : decode cX2_begin 1 = .ok (.iconst 0, 1) := by decide +kernel
theorem dX2_begin_2 : decode cX2_begin 2 = .ok (.putfield 28, 3) := by decide +kernel
theorem dX2_begin_5 : decode cX2_begin 5 = .ok (.aload_n 0, 1) := by decide +kernel
theorem dX2_begin_6 : decode cX2_begin 6 = .ok (.getfield 24, 3) := by decide +kernel
theorem dX2_begin_9 : decode cX2_begin 9 = .ok (.invokevirtual 32, 3) := by decide +kernel
theorem dX2_begin_12 : decode cX2_begin 12 = .ok (.return_, 1) := by decide +kernel
theorem dX2_add_0 : decode cX2_add 0 = .ok (.iload_n 1, 1) := by decide +kernel
theorem dX2_add_1 : decode cX2_add 1 = .ok (.ifCond .lt 10, 3) := by decide +kernel
theorem dX2_add_4 : decode cX2_add 4 = .ok (.iload_n 1, 1) := by decide +kernel
theorem dX2_add_5 : decode cX2_add 5 = .ok (.sipush 4096, 3) := by decide +kernel
theorem dX2_add_8 : decode cX2_add 8 = .ok (.if_icmp .lt 4, 3) := by decide +kernel
theorem dX2_add_11 : decode cX2_add 11 = .ok (.return_, 1) := by decide +kernel
theorem dX2_add_12 : decode cX2_add 12 = .ok (.aload_n 0, 1) := by decide +kernel
theorem dX2_add_13 : decode cX2_add 13 = .ok (.getfield 24, 3) := by decide +kernel
theorem dX2_add_16 : decode cX2_add 16 = .ok (.iload_n 1, 1) := by decide +kernel
theorem dX2_add_17 : decode cX2_add 17 = .ok (.invokevirtual 37, 3) := by decide +kernel
theorem dX2_add_20 : decode cX2_add 20 = .ok (.ifCond .eq 59, 3) := by decide +kernel
theorem dX2_add_23 : decode cX2_add 23 = .ok (.aload_n 0, 1) := by decide +kernel
theorem dX2_add_24 : decode cX2_add 24 = .ok (.getfield 28, 3) := by decide +kernel
theorem dX2_add_27 : decode cX2_add 27 = .ok (.aload_n 0, 1) := by decide +kernel
theorem dX2_add_28 : decode cX2_add 28 = .ok (.getfield 15, 3) := by decide +kernel
theorem dX2_add_31 : decode cX2_add 31 = .ok (.arraylength, 1) := by decide +kernel
theorem dX2_add_32 : decode cX2_add 32 = .ok (.if_icmp .ge 46, 3) := by decide +kernel
theorem dX2_add_35 : decode cX2_add 35 = .ok (.aload_n 0, 1) := by decide +kernel
theorem dX2_add_36 : decode cX2_add 36 = .ok (.getfield 24, 3) := by decide +kernel
theorem dX2_add_39 : decode cX2_add 39 = .ok (.getfield 41, 3) := by decide +kernel
theorem dX2_add_42 : decode cX2_add 42 = .ok (.iload_n 1, 1) := by decide +kernel
theorem dX2_add_43 : decode cX2_add 43 = .ok (.aload_n 0, 1) := by decide +kernel
theorem dX2_add_44 : decode cX2_add 44 = .ok (.getfield 28, 3) := by decide +kernel
theorem dX2_add_47 : decode cX2_add 47 = .ok (.iastore, 1) := by decide +kernel
theorem dX2_add_48 : decode cX2_add 48 = .ok (.aload_n 0, 1) := by decide +kernel
theorem dX2_add_49 : decode cX2_add 49 = .ok (.getfield 15, 3) := by decide +kernel
theorem dX2_add_52 : decode cX2_add 52 = .ok (.aload_n 0, 1) := by decide +kernel
theorem dX2_add_53 : decode cX2_add 53 = .ok (.getfield 28, 3) := by decide +kernel
theorem dX2_add_56 : decode cX2_add 56 = .ok (.iload_n 1, 1) := by decide +kernel
theorem dX2_add_57 : decode cX2_add 57 = .ok (.iastore, 1) := by decide +kernel
theorem dX2_add_58 : decode cX2_add 58 = .ok (.aload_n 0, 1) := by decide +kernel
theorem dX2_add_59 : decode cX2_add 59 = .ok (.getfield 21, 3) := by decide +kernel
theorem dX2_add_62 : decode cX2_add 62 = .ok (.aload_n 0, 1) := by decide +kernel
theorem dX2_add_63 : decode cX2_add 63 = .ok (.getfield 28, 3) := by decide +kernel
theorem dX2_add_66 : decode cX2_add 66 = .ok (.iload_n 2, 1) := by decide +kernel
theorem dX2_add_67 : decode cX2_add 67 = .ok (.iastore, 1) := by decide +kernel
theorem dX2_add_68 : decode cX2_add 68 = .ok (.aload_n 0, 1) := by decide +kernel
theorem dX2_add_69 : decode cX2_add 69 = .ok (.dup, 1) := by decide +kernel
theorem dX2_add_70 : decode cX2_add 70 = .ok (.getfield 28, 3) := by decide +kernel
theorem dX2_add_73 : decode cX2_add 73 = .ok (.iconst 1, 1) := by decide +kernel
theorem dX2_add_74 : decode cX2_add 74 = .ok (.iadd, 1) := by decide +kernel
theorem dX2_add_75 : decode cX2_add 75 = .ok (.putfield 28, 3) := by decide +kernel
theorem dX2_add_78 : decode cX2_add 78 = .ok (.return_, 1) := by decide +kernel
theorem dX2_add_79 : decode cX2_add 79 = .ok (.aload_n 0, 1) := by decide +kernel
theorem dX2_add_80 : decode cX2_add 80 = .ok (.getfield 24, 3) := by decide +kernel
theorem dX2_add_83 : decode cX2_add 83 = .ok (.getfield 41, 3) := by decide +kernel
theorem dX2_add_86 : decode cX2_add 86 = .ok (.iload_n 1, 1) := by decide +kernel
theorem dX2_add_87 : decode cX2_add 87 = .ok (.iaload, 1) := by decide +kernel
theorem dX2_add_88 : decode cX2_add 88 = .ok (.istore_n 3, 1) := by decide +kernel
theorem dX2_add_89 : decode cX2_add 89 = .ok (.iload_n 3, 1) := by decide +kernel
theorem dX2_add_90 : decode cX2_add 90 = .ok (.ifCond .lt 21, 3) := by decide +kernel
theorem dX2_add_93 : decode cX2_add 93 = .ok (.iload_n 3, 1) := by decide +kernel
theorem dX2_add_94 : decode cX2_add 94 = .ok (.aload_n 0, 1) := by decide +kernel
theorem dX2_add_95 : decode cX2_add 95 = .ok (.getfield 28, 3) := by decide +kernel
theorem dX2_add_98 : decode cX2_add 98 = .ok (.if_icmp .ge 13, 3) := by decide +kernel
theorem dX2_add_101 : decode cX2_add 101 = .ok (.aload_n 0, 1) := by decide +kernel
theorem dX2_add_102 : decode cX2_add 102 = .ok (.getfield 21, 3) := by decide +kernel
theorem dX2_add_105 : decode cX2_add 105 = .ok (.iload_n 3, 1) := by decide +kernel
theorem dX2_add_106 : decode cX2_add 106 = .ok (.dup2, 1) := by decide +kernel
theorem dX2_add_107 : decode cX2_add 107 = .ok (.iaload, 1) := by decide +kernel
theorem dX2_add_108 : decode cX2_add 108 = .ok (.iload_n 2, 1) := by decide +kernel
theorem dX2_add_109 : decode cX2_add 109 = .ok (.iadd, 1) := by decide +kernel
theorem dX2_add_110 : decode cX2_add 110 = .ok (.iastore, 1) := by decide +kernel
theorem dX2_add_111 : decode cX2_add 111 = .ok (.return_, 1) := by decide +kernel
theorem dX2_addParts_0 : decode cX2_addParts 0 = .ok (.iconst 0, 1) := by decide +kernel
theorem dX2_addParts_1 : decode cX2_addParts 1 = .ok (.istore_n 3, 1) := by decide +kernel
theorem dX2_addParts_2 : decode cX2_addParts 2 = .ok (.iload_n 3, 1) := by decide +kernel
theorem dX2_addParts_3 : decode cX2_addParts 3 = .ok (.aload_n 1, 1) := by decide +kernel
theorem dX2_addParts_4 : decode cX2_addParts 4 = .ok (.getfield 28, 3) := by decide +kernel
theorem dX2_addParts_7 : decode cX2_addParts 7 = .ok (.if_icmp .ge 27, 3) := by decide +kernel
theorem dX2_addParts_10 : decode cX2_addParts 10 = .ok (.aload_n 0, 1) := by decide +kernel
theorem dX2_addParts_11 : decode cX2_addParts 11 = .ok (.aload_n 1, 1) := by decide +kernel
theorem dX2_addParts_12 : decode cX2_addParts 12 = .ok (.getfield 15, 3) := by decide +kernel
theorem dX2_addParts_15 : decode cX2_addParts 15 = .ok (.iload_n 3, 1) := by decide +kernel
theorem dX2_addParts_16 : decode cX2_addParts 16 = .ok (.iaload, 1) := by decide +kernel
theorem dX2_addParts_17 : decode cX2_addParts 17 = .ok (.iload_n 2, 1) := by decide +kernel
theorem dX2_addParts_18 : decode cX2_addParts 18 = .ok (.iand, 1) := by decide +kernel
theorem dX2_addParts_19 : decode cX2_addParts 19 = .ok (.aload_n 1, 1) := by decide +kernel
theorem dX2_addParts_20 : decode cX2_addParts 20 = .ok (.getfield 21, 3) := by decide +kernel
theorem dX2_addParts_23 : decode cX2_addParts 23 = .ok (.iload_n 3, 1) := by decide +kernel
theorem dX2_addParts_24 : decode cX2_addParts 24 = .ok (.iaload, 1) := by decide +kernel
theorem dX2_addParts_25 : decode cX2_addParts 25 = .ok (.invokevirtual 44, 3) := by decide +kernel
theorem dX2_addParts_28 : decode cX2_addParts 28 = .ok (.iinc 3 1, 3) := by decide +kernel
theorem dX2_addParts_31 : decode cX2_addParts 31 = .ok (.goto (-29), 3) := by decide +kernel
theorem dX2_addParts_34 : decode cX2_addParts 34 = .ok (.return_, 1) := by decide +kernel
theorem dX2_addProducts_0 : decode cX2_addProducts 0 = .ok (.iconst 0, 1) := by decide +kernel
theorem dX2_addProducts_1 : decode cX2_addProducts 1 = .ok (.istore_n 3, 1) := by decide +kernel
theorem dX2_addProducts_2 : decode cX2_addProducts 2 = .ok (.iload_n 3, 1) := by decide +kernel
theorem dX2_addProducts_3 : decode cX2_addProducts 3 = .ok (.aload_n 1, 1) := by decide +kernel
theorem dX2_addProducts_4 : decode cX2_addProducts 4 = .ok (.getfield 28, 3) := by decide +kernel
theorem dX2_addProducts_7 : decode cX2_addProducts 7 = .ok (.if_icmp .ge 59, 3) := by decide +kernel
theorem dX2_addProducts_10 : decode cX2_addProducts 10 = .ok (.iconst 0, 1) := by decide +kernel
theorem dX2_addProducts_11 : decode cX2_addProducts 11 = .ok (.istore 4, 2) := by decide +kernel
theorem dX2_addProducts_13 : decode cX2_addProducts 13 = .ok (.iload 4, 2) := by decide +kernel
end
section
theorem dX2_addProducts_15 : decode cX2_addProducts 15 = .ok (.aload_n 2, 1) := by decide +kernel
theorem dX2_addProducts_16 : decode cX2_addProducts 16 = .ok (.getfield 28, 3) := by decide +kernel
theorem dX2_addProducts_19 : decode cX2_addProducts 19 = .ok (.if_icmp .ge 41, 3) := by decide +kernel
theorem dX2_addProducts_22 : decode cX2_addProducts 22 = .ok (.aload_n 0, 1) := by decide +kernel
theorem dX2_addProducts_23 : decode cX2_addProducts 23 = .ok (.aload_n 1, 1) := by decide +kernel
theorem dX2_addProducts_24 : decode cX2_addProducts 24 = .ok (.getfield 15, 3) := by decide +kernel
theorem dX2_addProducts_27 : decode cX2_addProducts 27 = .ok (.iload_n 3, 1) := by decide +kernel
theorem dX2_addProducts_28 : decode cX2_addProducts 28 = .ok (.iaload, 1) := by decide +kernel
theorem dX2_addProducts_29 : decode cX2_addProducts 29 = .ok (.aload_n 2, 1) := by decide +kernel
theorem dX2_addProducts_30 : decode cX2_addProducts 30 = .ok (.getfield 15, 3) := by decide +kernel
theorem dX2_addProducts_33 : decode cX2_addProducts 33 = .ok (.iload 4, 2) := by decide +kernel
theorem dX2_addProducts_35 : decode cX2_addProducts 35 = .ok (.iaload, 1) := by decide +kernel
theorem dX2_addProducts_36 : decode cX2_addProducts 36 = .ok (.iand, 1) := by decide +kernel
theorem dX2_addProducts_37 : decode cX2_addProducts 37 = .ok (.aload_n 1, 1) := by decide +kernel
theorem dX2_addProducts_38 : decode cX2_addProducts 38 = .ok (.getfield 21, 3) := by decide +kernel
theorem dX2_addProducts_41 : decode cX2_addProducts 41 = .ok (.iload_n 3, 1) := by decide +kernel
theorem dX2_addProducts_42 : decode cX2_addProducts 42 = .ok (.iaload, 1) := by decide +kernel
theorem dX2_addProducts_43 : decode cX2_addProducts 43 = .ok (.aload_n 2, 1) := by decide +kernel
theorem dX2_addProducts_44 : decode cX2_addProducts 44 = .ok (.getfield 21, 3) := by decide +kernel
theorem dX2_addProducts_47 : decode cX2_addProducts 47 = .ok (.iload 4, 2) := by decide +kernel
theorem dX2_addProducts_49 : decode cX2_addProducts 49 = .ok (.iaload, 1) := by decide +kernel
theorem dX2_addProducts_50 : decode cX2_addProducts 50 = .ok (.imul, 1) := by decide +kernel
theorem dX2_addProducts_51 : decode cX2_addProducts 51 = .ok (.invokevirtual 44, 3) := by decide +kernel
theorem dX2_addProducts_54 : decode cX2_addProducts 54 = .ok (.iinc 4 1, 3) := by decide +kernel
theorem dX2_addProducts_57 : decode cX2_addProducts 57 = .ok (.goto (-44), 3) := by decide +kernel
theorem dX2_addProducts_60 : decode cX2_addProducts 60 = .ok (.iinc 3 1, 3) := by decide +kernel
theorem dX2_addProducts_63 : decode cX2_addProducts 63 = .ok (.goto (-61), 3) := by decide +kernel
theorem dX2_addProducts_66 : decode cX2_addProducts 66 = .ok (.return_, 1) := by decide +kernel
theorem dX2_copy_0 : decode cX2_copy 0 = .ok (.aload_n 0, 1) := by decide +kernel
theorem dX2_copy_1 : decode cX2_copy 1 = .ok (.aload_n 1, 1) := by decide +kernel
theorem dX2_copy_2 : decode cX2_copy 2 = .ok (.getfield 28, 3) := by decide +kernel
theorem dX2_copy_5 : decode cX2_copy 5 = .ok (.aload_n 0, 1) := by decide +kernel
theorem dX2_copy_6 : decode cX2_copy 6 = .ok (.getfield 15, 3) := by decide +kernel
theorem dX2_copy_9 : decode cX2_copy 9 = .ok (.arraylength, 1) := by decide +kernel
theorem dX2_copy_10 : decode cX2_copy 10 = .ok (.invokestatic 48, 3) := by decide +kernel
theorem dX2_copy_13 : decode cX2_copy 13 = .ok (.putfield 28, 3) := by decide +kernel
theorem dX2_copy_16 : decode cX2_copy 16 = .ok (.iconst 0, 1) := by decide +kernel
theorem dX2_copy_17 : decode cX2_copy 17 = .ok (.istore_n 2, 1) := by decide +kernel
theorem dX2_copy_18 : decode cX2_copy 18 = .ok (.iload_n 2, 1) := by decide +kernel
theorem dX2_copy_19 : decode cX2_copy 19 = .ok (.aload_n 0, 1) := by decide +kernel
theorem dX2_copy_20 : decode cX2_copy 20 = .ok (.getfield 28, 3) := by decide +kernel
theorem dX2_copy_23 : decode cX2_copy 23 = .ok (.if_icmp .ge 33, 3) := by decide +kernel
theorem dX2_copy_26 : decode cX2_copy 26 = .ok (.aload_n 0, 1) := by decide +kernel
theorem dX2_copy_27 : decode cX2_copy 27 = .ok (.getfield 15, 3) := by decide +kernel
theorem dX2_copy_30 : decode cX2_copy 30 = .ok (.iload_n 2, 1) := by decide +kernel
theorem dX2_copy_31 : decode cX2_copy 31 = .ok (.aload_n 1, 1) := by decide +kernel
theorem dX2_copy_32 : decode cX2_copy 32 = .ok (.getfield 15, 3) := by decide +kernel
theorem dX2_copy_35 : decode cX2_copy 35 = .ok (.iload_n 2, 1) := by decide +kernel
theorem dX2_copy_36 : decode cX2_copy 36 = .ok (.iaload, 1) := by decide +kernel
theorem dX2_copy_37 : decode cX2_copy 37 = .ok (.iastore, 1) := by decide +kernel
theorem dX2_copy_38 : decode cX2_copy 38 = .ok (.aload_n 0, 1) := by decide +kernel
theorem dX2_copy_39 : decode cX2_copy 39 = .ok (.getfield 21, 3) := by decide +kernel
theorem dX2_copy_42 : decode cX2_copy 42 = .ok (.iload_n 2, 1) := by decide +kernel
theorem dX2_copy_43 : decode cX2_copy 43 = .ok (.aload_n 1, 1) := by decide +kernel
theorem dX2_copy_44 : decode cX2_copy 44 = .ok (.getfield 21, 3) := by decide +kernel
theorem dX2_copy_47 : decode cX2_copy 47 = .ok (.iload_n 2, 1) := by decide +kernel
theorem dX2_copy_48 : decode cX2_copy 48 = .ok (.iaload, 1) := by decide +kernel
theorem dX2_copy_49 : decode cX2_copy 49 = .ok (.iastore, 1) := by decide +kernel
theorem dX2_copy_50 : decode cX2_copy 50 = .ok (.iinc 2 1, 3) := by decide +kernel
theorem dX2_copy_53 : decode cX2_copy 53 = .ok (.goto (-35), 3) := by decide +kernel
theorem dX2_copy_56 : decode cX2_copy 56 = .ok (.return_, 1) := by decide +kernel
theorem dX3_init_0 : decode cX3_init 0 = .ok (.aload_n 0, 1) := by decide +kernel
theorem dX3_init_1 : decode cX3_init 1 = .ok (.invokespecial 3, 3) := by decide +kernel
theorem dX3_init_4 : decode cX3_init 4 = .ok (.aload_n 0, 1) := by decide +kernel
theorem dX3_init_5 : decode cX3_init 5 = .ok (.iconst 4, 1) := by decide +kernel
theorem dX3_init_6 : decode cX3_init 6 = .ok (.newarray .int, 2) := by decide +kernel
theorem dX3_init_8 : decode cX3_init 8 = .ok (.putfield 9, 3) := by decide +kernel
theorem dX3_init_11 : decode cX3_init 11 = .ok (.aload_n 0, 1) := by decide +kernel
theorem dX3_init_12 : decode cX3_init 12 = .ok (.iconst 4, 1) := by decide +kernel
theorem dX3_init_13 : decode cX3_init 13 = .ok (.newarray .int, 2) := by decide +kernel
theorem dX3_init_15 : decode cX3_init 15 = .ok (.putfield 15, 3) := by decide +kernel
theorem dX3_init_18 : decode cX3_init 18 = .ok (.aload_n 0, 1) := by decide +kernel
theorem dX3_init_19 : decode cX3_init 19 = .ok (.iconst 4, 1) := by decide +kernel
theorem dX3_init_20 : decode cX3_init 20 = .ok (.newarray .int, 2) := by decide +kernel
theorem dX3_init_22 : decode cX3_init 22 = .ok (.putfield 18, 3) := by decide +kernel
theorem dX3_init_25 : decode cX3_init 25 = .ok (.aload_n 0, 1) := by decide +kernel
theorem dX3_init_26 : decode cX3_init 26 = .ok (.iconst 4, 1) := by decide +kernel
theorem dX3_init_27 : decode cX3_init 27 = .ok (.newarray .int, 2) := by decide +kernel
theorem dX3_init_29 : decode cX3_init 29 = .ok (.putfield 21, 3) := by decide +kernel
theorem dX3_init_32 : decode cX3_init 32 = .ok (.aload_n 0, 1) := by decide +kernel
theorem dX3_init_33 : decode cX3_init 33 = .ok (.bipush 24, 2) := by decide +kernel
theorem dX3_init_35 : decode cX3_init 35 = .ok (.newarray .int, 2) := by decide +kernel
theorem dX3_init_37 : decode cX3_init 37 = .ok (.putfield 24, 3) := by decide +kernel
theorem dX3_init_40 : decode cX3_init 40 = .ok (.aload_n 0, 1) := by decide +kernel
theorem dX3_init_41 : decode cX3_init 41 = .ok (.bipush 24, 2) := by decide +kernel
theorem dX3_init_43 : decode cX3_init 43 = .ok (.newarray .int, 2) := by decide +kernel
theorem dX3_init_45 : decode cX3_init 45 = .ok (.putfield 27, 3) := by decide +kernel
theorem dX3_init_48 : decode cX3_init 48 = .ok (.aload_n 0, 1) := by decide +kernel
theorem dX3_init_49 : decode cX3_init 49 = .ok (.bipush 24, 2) := by decide +kernel
theorem dX3_init_51 : decode cX3_init 51 = .ok (.newarray .int, 2) := by decide +kernel
theorem dX3_init_53 : decode cX3_init 53 = .ok (.putfield 30, 3) := by decide +kernel
theorem dX3_init_56 : decode cX3_init 56 = .ok (.aload_n 0, 1) := by decide +kernel
theorem dX3_init_57 : decode cX3_init 57 = .ok (.bipush 24, 2) := by decide +kernel
theorem dX3_init_59 : decode cX3_init 59 = .ok (.newarray .int, 2) := by decide +kernel
theorem dX3_init_61 : decode cX3_init 61 = .ok (.putfield 33, 3) := by decide +kernel
theorem dX3_init_64 : decode cX3_init 64 = .ok (.aload_n 0, 1) := by decide +kernel
theorem dX3_init_65 : decode cX3_init 65 = .ok (.bipush 24, 2) := by decide +kernel
theorem dX3_init_67 : decode cX3_init 67 = .ok (.newarray .int, 2) := by decide +kernel
theorem dX3_init_69 : decode cX3_init 69 = .ok (.putfield 36, 3) := by decide +kernel
theorem dX3_init_72 : decode cX3_init 72 = .ok (.return_, 1) := by decide +kernel
theorem dX3_clear_0 : decode cX3_clear 0 = .ok (.aload_n 0, 1) := by decide +kernel
theorem dX3_clear_1 : decode cX3_clear 1 = .ok (.iconst 0, 1) := by decide +kernel
theorem dX3_clear_2 : decode cX3_clear 2 = .ok (.putfield 39, 3) := by decide +kernel
theorem dX3_clear_5 : decode cX3_clear 5 = .ok (.aload_n 0, 1) := by decide +kernel
theorem dX3_clear_6 : decode cX3_clear 6 = .ok (.iconst 0, 1) := by decide +kernel
theorem dX3_clear_7 : decode cX3_clear 7 = .ok (.putfield 43, 3) := by decide +kernel
theorem dX3_clear_10 : decode cX3_clear 10 = .ok (.return_, 1) := by decide +kernel
theorem dX3_isKind_0 : decode cX3_isKind 0 = .ok (.iload_n 1, 1) := by decide +kernel
theorem dX3_isKind_1 : decode cX3_isKind 1 = .ok (.ifCond .lt 15, 3) := by decide +kernel
theorem dX3_isKind_4 : decode cX3_isKind 4 = .ok (.iload_n 1, 1) := by decide +kernel
theorem dX3_isKind_5 : decode cX3_isKind 5 = .ok (.aload_n 0, 1) := by decide +kernel
theorem dX3_isKind_6 : decode cX3_isKind 6 = .ok (.getfield 39, 3) := by decide +kernel
theorem dX3_isKind_9 : decode cX3_isKind 9 = .ok (.if_icmp .ge 7, 3) := by decide +kernel
theorem dX3_isKind_12 : decode cX3_isKind 12 = .ok (.iconst 1, 1) := by decide +kernel
theorem dX3_isKind_13 : decode cX3_isKind 13 = .ok (.goto 4, 3) := by decide +kernel
theorem dX3_isKind_16 : decode cX3_isKind 16 = .ok (.iconst 0, 1) := by decide +kernel
theorem dX3_isKind_17 : decode cX3_isKind 17 = .ok (.ireturn, 1) := by decide +kernel
theorem dX3_isCon_0 : decode cX3_isCon 0 = .ok (.iload_n 1, 1) := by decide +kernel
theorem dX3_isCon_1 : decode cX3_isCon 1 = .ok (.ifCond .lt 15, 3) := by decide +kernel
theorem dX3_isCon_4 : decode cX3_isCon 4 = .ok (.iload_n 1, 1) := by decide +kernel
theorem dX3_isCon_5 : decode cX3_isCon 5 = .ok (.aload_n 0, 1) := by decide +kernel
theorem dX3_isCon_6 : decode cX3_isCon 6 = .ok (.getfield 43, 3) := by decide +kernel
theorem dX3_isCon_9 : decode cX3_isCon 9 = .ok (.if_icmp .ge 7, 3) := by decide +kernel
theorem dX3_isCon_12 : decode cX3_isCon 12 = .ok (.iconst 1, 1) := by decide +kernel
theorem dX3_isCon_13 : decode cX3_isCon 13 = .ok (.goto 4, 3) := by decide +kernel
theorem dX3_isCon_16 : decode cX3_isCon 16 = .ok (.iconst 0, 1) := by decide +kernel
theorem dX3_isCon_17 : decode cX3_isCon 17 = .ok (.ireturn, 1) := by decide +kernel
theorem dX3_sizeOf_0 : decode cX3_sizeOf 0 = .ok (.iload_n 1, 1) := by decide +kernel
theorem dX3_sizeOf_1 : decode cX3_sizeOf 1 = .ok (.iconst (-1), 1) := by decide +kernel
theorem dX3_sizeOf_2 : decode cX3_sizeOf 2 = .ok (.if_icmp .ne 6, 3) := by decide +kernel
theorem dX3_sizeOf_5 : decode cX3_sizeOf 5 = .ok (.bipush 20, 2) := by decide +kernel
theorem dX3_sizeOf_7 : decode cX3_sizeOf 7 = .ok (.ireturn, 1) := by decide +kernel
theorem dX3_sizeOf_8 : decode cX3_sizeOf 8 = .ok (.iload_n 1, 1) := by decide +kernel
theorem dX3_sizeOf_9 : decode cX3_sizeOf 9 = .ok (.ifCond .lt 20, 3) := by decide +kernel
theorem dX3_sizeOf_12 : decode cX3_sizeOf 12 = .ok (.iload_n 1, 1) := by decide +kernel
theorem dX3_sizeOf_13 : decode cX3_sizeOf 13 = .ok (.aload_n 0, 1) := by decide +kernel
theorem dX3_sizeOf_14 : decode cX3_sizeOf 14 = .ok (.getfield 39, 3) := by decide +kernel
theorem dX3_sizeOf_17 : decode cX3_sizeOf 17 = .ok (.if_icmp .ge 12, 3) := by decide +kernel
theorem dX3_sizeOf_20 : decode cX3_sizeOf 20 = .ok (.aload_n 0, 1) := by decide +kernel
theorem dX3_sizeOf_21 : decode cX3_sizeOf 21 = .ok (.getfield 21, 3) := by decide +kernel
theorem dX3_sizeOf_24 : decode cX3_sizeOf 24 = .ok (.iload_n 1, 1) := by decide +kernel
theorem dX3_sizeOf_25 : decode cX3_sizeOf 25 = .ok (.iaload, 1) := by decide +kernel
theorem dX3_sizeOf_26 : decode cX3_sizeOf 26 = .ok (.goto 4, 3) := by decide +kernel
theorem dX3_sizeOf_29 : decode cX3_sizeOf 29 = .ok (.iconst 0, 1) := by decide +kernel
theorem dX3_sizeOf_30 : decode cX3_sizeOf 30 = .ok (.ireturn, 1) := by decide +kernel
theorem dX3_consOf_0 : decode cX3_consOf 0 = .ok (.aload_n 0, 1) := by decide +kernel
theorem dX3_consOf_1 : decode cX3_consOf 1 = .ok (.iload_n 1, 1) := by decide +kernel
theorem dX3_consOf_2 : decode cX3_consOf 2 = .ok (.invokevirtual 46, 3) := by decide +kernel
theorem dX3_consOf_5 : decode cX3_consOf 5 = .ok (.ifCond .eq 12, 3) := by decide +kernel
theorem dX3_consOf_8 : decode cX3_consOf 8 = .ok (.aload_n 0, 1) := by decide +kernel
theorem dX3_consOf_9 : decode cX3_consOf 9 = .ok (.getfield 18, 3) := by decide +kernel
theorem dX3_consOf_12 : decode cX3_consOf 12 = .ok (.iload_n 1, 1) := by decide +kernel
theorem dX3_consOf_13 : decode cX3_consOf 13 = .ok (.iaload, 1) := by decide +kernel
theorem dX3_consOf_14 : decode cX3_consOf 14 = .ok (.goto 4, 3) := by decide +kernel
theorem dX3_consOf_17 : decode cX3_consOf 17 = .ok (.iconst 0, 1) := by decide +kernel
theorem dX3_consOf_18 : decode cX3_consOf 18 = .ok (.ireturn, 1) := by decide +kernel
theorem dX3_kindNamed_0 : decode cX3_kindNamed 0 = .ok (.iconst 0, 1) := by decide +kernel
theorem dX3_kindNamed_1 : decode cX3_kindNamed 1 = .ok (.istore_n 2, 1) := by decide +kernel
theorem dX3_kindNamed_2 : decode cX3_kindNamed 2 = .ok (.iload_n 2, 1) := by decide +kernel
theorem dX3_kindNamed_3 : decode cX3_kindNamed 3 = .ok (.aload_n 0, 1) := by decide +kernel
theorem dX3_kindNamed_4 : decode cX3_kindNamed 4 = .ok (.getfield 39, 3) := by decide +kernel
theorem dX3_kindNamed_7 : decode cX3_kindNamed 7 = .ok (.if_icmp .ge 21, 3) := by decide +kernel
theorem dX3_kindNamed_10 : decode cX3_kindNamed 10 = .ok (.aload_n 0, 1) := by decide +kernel
theorem dX3_kindNamed_11 : decode cX3_kindNamed 11 = .ok (.getfield 9, 3) := by decide +kernel
theorem dX3_kindNamed_14 : decode cX3_kindNamed 14 = .ok (.iload_n 2, 1) := by decide +kernel
theorem dX3_kindNamed_15 : decode cX3_kindNamed 15 = .ok (.iaload, 1) := by decide +kernel
theorem dX3_kindNamed_16 : decode cX3_kindNamed 16 = .ok (.iload_n 1, 1) := by decide +kernel
theorem dX3_kindNamed_17 : decode cX3_kindNamed 17 = .ok (.if_icmp .ne 5, 3) := by decide +kernel
theorem dX3_kindNamed_20 : decode cX3_kindNamed 20 = .ok (.iload_n 2, 1) := by decide +kernel
theorem dX3_kindNamed_21 : decode cX3_kindNamed 21 = .ok (.ireturn, 1) := by decide +kernel
theorem dX3_kindNamed_22 : decode cX3_kindNamed 22 = .ok (.iinc 2 1, 3) := by decide +kernel
theorem dX3_kindNamed_25 : decode cX3_kindNamed 25 = .ok (.goto (-23), 3) := by decide +kernel
theorem dX3_kindNamed_28 : decode cX3_kindNamed 28 = .ok (.iconst (-1), 1) := by decide +kernel
theorem dX3_kindNamed_29 : decode cX3_kindNamed 29 = .ok (.ireturn, 1) := by decide +kernel
theorem dX3_conNamed_0 : decode cX3_conNamed 0 = .ok (.iconst 0, 1) := by decide +kernel
theorem dX3_conNamed_1 : decode cX3_conNamed 1 = .ok (.istore_n 2, 1) := by decide +kernel
theorem dX3_conNamed_2 : decode cX3_conNamed 2 = .ok (.iload_n 2, 1) := by decide +kernel
theorem dX3_conNamed_3 : decode cX3_conNamed 3 = .ok (.aload_n 0, 1) := by decide +kernel
theorem dX3_conNamed_4 : decode cX3_conNamed 4 = .ok (.getfield 43, 3) := by decide +kernel
theorem dX3_conNamed_7 : decode cX3_conNamed 7 = .ok (.if_icmp .ge 21, 3) := by decide +kernel
theorem dX3_conNamed_10 : decode cX3_conNamed 10 = .ok (.aload_n 0, 1) := by decide +kernel
theorem dX3_conNamed_11 : decode cX3_conNamed 11 = .ok (.getfield 24, 3) := by decide +kernel
theorem dX3_conNamed_14 : decode cX3_conNamed 14 = .ok (.iload_n 2, 1) := by decide +kernel
theorem dX3_conNamed_15 : decode cX3_conNamed 15 = .ok (.iaload, 1) := by decide +kernel
theorem dX3_conNamed_16 : decode cX3_conNamed 16 = .ok (.iload_n 1, 1) := by decide +kernel
theorem dX3_conNamed_17 : decode cX3_conNamed 17 = .ok (.if_icmp .ne 5, 3) := by decide +kernel
theorem dX3_conNamed_20 : decode cX3_conNamed 20 = .ok (.iload_n 2, 1) := by decide +kernel
theorem dX3_conNamed_21 : decode cX3_conNamed 21 = .ok (.ireturn, 1) := by decide +kernel
theorem dX3_conNamed_22 : decode cX3_conNamed 22 = .ok (.iinc 2 1, 3) := by decide +kernel
theorem dX3_conNamed_25 : decode cX3_conNamed 25 = .ok (.goto (-23), 3) := by decide +kernel
theorem dX3_conNamed_28 : decode cX3_conNamed 28 = .ok (.iconst (-1), 1) := by decide +kernel
theorem dX3_conNamed_29 : decode cX3_conNamed 29 = .ok (.ireturn, 1) := by decide +kernel
theorem dX3_conNamedOf_0 : decode cX3_conNamedOf 0 = .ok (.aload_n 0, 1) := by decide +kernel
theorem dX3_conNamedOf_1 : decode cX3_conNamedOf 1 = .ok (.iload_n 2, 1) := by decide +kernel
theorem dX3_conNamedOf_2 : decode cX3_conNamedOf 2 = .ok (.invokevirtual 50, 3) := by decide +kernel
theorem dX3_conNamedOf_5 : decode cX3_conNamedOf 5 = .ok (.istore_n 3, 1) := by decide +kernel
theorem dX3_conNamedOf_6 : decode cX3_conNamedOf 6 = .ok (.iload_n 3, 1) := by decide +kernel
theorem dX3_conNamedOf_7 : decode cX3_conNamedOf 7 = .ok (.iconst (-1), 1) := by decide +kernel
theorem dX3_conNamedOf_8 : decode cX3_conNamedOf 8 = .ok (.if_icmp .eq 11, 3) := by decide +kernel
theorem dX3_conNamedOf_11 : decode cX3_conNamedOf 11 = .ok (.aload_n 0, 1) := by decide +kernel
theorem dX3_conNamedOf_12 : decode cX3_conNamedOf 12 = .ok (.iload_n 1, 1) := by decide +kernel
theorem dX3_conNamedOf_13 : decode cX3_conNamedOf 13 = .ok (.invokevirtual 46, 3) := by decide +kernel
theorem dX3_conNamedOf_16 : decode cX3_conNamedOf 16 = .ok (.ifCond .ne 5, 3) := by decide +kernel
theorem dX3_conNamedOf_19 : decode cX3_conNamedOf 19 = .ok (.iconst (-1), 1) := by decide +kernel
theorem dX3_conNamedOf_20 : decode cX3_conNamedOf 20 = .ok (.ireturn, 1) := by decide +kernel
theorem dX3_conNamedOf_21 : decode cX3_conNamedOf 21 = .ok (.aload_n 0, 1) := by decide +kernel
theorem dX3_conNamedOf_22 : decode cX3_conNamedOf 22 = .ok (.getfield 15, 3) := by decide +kernel
theorem dX3_conNamedOf_25 : decode cX3_conNamedOf 25 = .ok (.iload_n 1, 1) := by decide +kernel
theorem dX3_conNamedOf_26 : decode cX3_conNamedOf 26 = .ok (.iaload, 1) := by decide +kernel
theorem dX3_conNamedOf_27 : decode cX3_conNamedOf 27 = .ok (.istore 4, 2) := by decide +kernel
theorem dX3_conNamedOf_29 : decode cX3_conNamedOf 29 = .ok (.iload_n 3, 1) := by decide +kernel
theorem dX3_conNamedOf_30 : decode cX3_conNamedOf 30 = .ok (.iload 4, 2) := by decide +kernel
theorem dX3_conNamedOf_32 : decode cX3_conNamedOf 32 = .ok (.if_icmp .lt 20, 3) := by decide +kernel
theorem dX3_conNamedOf_35 : decode cX3_conNamedOf 35 = .ok (.iload_n 3, 1) := by decide +kernel
theorem dX3_conNamedOf_36 : decode cX3_conNamedOf 36 = .ok (.iload 4, 2) := by decide +kernel
theorem dX3_conNamedOf_38 : decode cX3_conNamedOf 38 = .ok (.aload_n 0, 1) := by decide +kernel
theorem dX3_conNamedOf_39 : decode cX3_conNamedOf 39 = .ok (.getfield 18, 3) := by decide +kernel
theorem dX3_conNamedOf_42 : decode cX3_conNamedOf 42 = .ok (.iload_n 1, 1) := by decide +kernel
theorem dX3_conNamedOf_43 : decode cX3_conNamedOf 43 = .ok (.iaload, 1) := by decide +kernel
theorem dX3_conNamedOf_44 : decode cX3_conNamedOf 44 = .ok (.iadd, 1) := by decide +kernel
theorem dX3_conNamedOf_45 : decode cX3_conNamedOf 45 = .ok (.if_icmp .ge 7, 3) := by decide +kernel
theorem dX3_conNamedOf_48 : decode cX3_conNamedOf 48 = .ok (.iload_n 3, 1) := by decide +kernel
theorem dX3_conNamedOf_49 : decode cX3_conNamedOf 49 = .ok (.goto 4, 3) := by decide +kernel
theorem dX3_conNamedOf_52 : decode cX3_conNamedOf 52 = .ok (.iconst (-1), 1) := by decide +kernel
theorem dX3_conNamedOf_53 : decode cX3_conNamedOf 53 = .ok (.ireturn, 1) := by decide +kernel
theorem dX3_conOf_0 : decode cX3_conOf 0 = .ok (.aload_n 0, 1) := by decide +kernel
theorem dX3_conOf_1 : decode cX3_conOf 1 = .ok (.iload_n 1, 1) := by decide +kernel
theorem dX3_conOf_2 : decode cX3_conOf 2 = .ok (.invokevirtual 46, 3) := by decide +kernel
theorem dX3_conOf_5 : decode cX3_conOf 5 = .ok (.ifCond .ne 5, 3) := by decide +kernel
theorem dX3_conOf_8 : decode cX3_conOf 8 = .ok (.iconst (-1), 1) := by decide +kernel
theorem dX3_conOf_9 : decode cX3_conOf 9 = .ok (.ireturn, 1) := by decide +kernel
theorem dX3_conOf_10 : decode cX3_conOf 10 = .ok (.iconst (-1), 1) := by decide +kernel
theorem dX3_conOf_11 : decode cX3_conOf 11 = .ok (.istore_n 3, 1) := by decide +kernel
theorem dX3_conOf_12 : decode cX3_conOf 12 = .ok (.iconst 0, 1) := by decide +kernel
theorem dX3_conOf_13 : decode cX3_conOf 13 = .ok (.istore 4, 2) := by decide +kernel
theorem dX3_conOf_15 : decode cX3_conOf 15 = .ok (.iload 4, 2) := by decide +kernel
theorem dX3_conOf_17 : decode cX3_conOf 17 = .ok (.aload_n 0, 1) := by decide +kernel
theorem dX3_conOf_18 : decode cX3_conOf 18 = .ok (.getfield 18, 3) := by decide +kernel
theorem dX3_conOf_21 : decode cX3_conOf 21 = .ok (.iload_n 1, 1) := by decide +kernel
theorem dX3_conOf_22 : decode cX3_conOf 22 = .ok (.iaload, 1) := by decide +kernel
theorem dX3_conOf_23 : decode cX3_conOf 23 = .ok (.if_icmp .ge 43, 3) := by decide +kernel
theorem dX3_conOf_26 : decode cX3_conOf 26 = .ok (.aload_n 0, 1) := by decide +kernel
theorem dX3_conOf_27 : decode cX3_conOf 27 = .ok (.getfield 15, 3) := by decide +kernel
theorem dX3_conOf_30 : decode cX3_conOf 30 = .ok (.iload_n 1, 1) := by decide +kernel
theorem dX3_conOf_31 : decode cX3_conOf 31 = .ok (.iaload, 1) := by decide +kernel
theorem dX3_conOf_32 : decode cX3_conOf 32 = .ok (.iload 4, 2) := by decide +kernel
theorem dX3_conOf_34 : decode cX3_conOf 34 = .ok (.iadd, 1) := by decide +kernel
theorem dX3_conOf_35 : decode cX3_conOf 35 = .ok (.istore 5, 2) := by decide +kernel
theorem dX3_conOf_37 : decode cX3_conOf 37 = .ok (.aload_n 0, 1) := by decide +kernel
theorem dX3_conOf_38 : decode cX3_conOf 38 = .ok (.iload 5, 2) := by decide +kernel
theorem dX3_conOf_40 : decode cX3_conOf 40 = .ok (.invokevirtual 54, 3) := by decide +kernel
theorem dX3_conOf_43 : decode cX3_conOf 43 = .ok (.ifCond .eq 17, 3) := by decide +kernel
theorem dX3_conOf_46 : decode cX3_conOf 46 = .ok (.aload_n 0, 1) := by decide +kernel
theorem dX3_conOf_47 : decode cX3_conOf 47 = .ok (.getfield 27, 3) := by decide +kernel
theorem dX3_conOf_50 : decode cX3_conOf 50 = .ok (.iload 5, 2) := by decide +kernel
theorem dX3_conOf_52 : decode cX3_conOf 52 = .ok (.iaload, 1) := by decide +kernel
theorem dX3_conOf_53 : decode cX3_conOf 53 = .ok (.iload_n 2, 1) := by decide +kernel
theorem dX3_conOf_54 : decode cX3_conOf 54 = .ok (.if_icmp .gt 6, 3) := by decide +kernel
theorem dX3_conOf_57 : decode cX3_conOf 57 = .ok (.iload 5, 2) := by decide +kernel
theorem dX3_conOf_59 : decode cX3_conOf 59 = .ok (.istore_n 3, 1) := by decide +kernel
theorem dX3_conOf_60 : decode cX3_conOf 60 = .ok (.iinc 4 1, 3) := by decide +kernel
theorem dX3_conOf_63 : decode cX3_conOf 63 = .ok (.goto (-48), 3) := by decide +kernel
theorem dX3_conOf_66 : decode cX3_conOf 66 = .ok (.iload_n 3, 1) := by decide +kernel
theorem dX3_conOf_67 : decode cX3_conOf 67 = .ok (.ireturn, 1) := by decide +kernel
theorem dX3_secondSize_0 : decode cX3_secondSize 0 = .ok (.aload_n 0, 1) := by decide +kernel
theorem dX3_secondSize_1 : decode cX3_secondSize 1 = .ok (.iload_n 1, 1) := by decide +kernel
theorem dX3_secondSize_2 : decode cX3_secondSize 2 = .ok (.invokevirtual 54, 3) := by decide +kernel
theorem dX3_secondSize_5 : decode cX3_secondSize 5 = .ok (.ifCond .eq 26, 3) := by decide +kernel
theorem dX3_secondSize_8 : decode cX3_secondSize 8 = .ok (.aload_n 0, 1) := by decide +kernel
theorem dX3_secondSize_9 : decode cX3_secondSize 9 = .ok (.getfield 30, 3) := by decide +kernel
theorem dX3_secondSize_12 : decode cX3_secondSize 12 = .ok (.iload_n 1, 1) := by decide +kernel
theorem dX3_secondSize_13 : decode cX3_secondSize 13 = .ok (.iaload, 1) := by decide +kernel
theorem dX3_secondSize_14 : decode cX3_secondSize 14 = .ok (.iconst 2, 1) := by decide +kernel
theorem dX3_secondSize_15 : decode cX3_secondSize 15 = .ok (.if_icmp .ne 16, 3) := by decide +kernel
theorem dX3_secondSize_18 : decode cX3_secondSize 18 = .ok (.aload_n 0, 1) := by decide +kernel
theorem dX3_secondSize_19 : decode cX3_secondSize 19 = .ok (.aload_n 0, 1) := by decide +kernel
theorem dX3_secondSize_20 : decode cX3_secondSize 20 = .ok (.getfield 36, 3) := by decide +kernel
theorem dX3_secondSize_23 : decode cX3_secondSize 23 = .ok (.iload_n 1, 1) := by decide +kernel
theorem dX3_secondSize_24 : decode cX3_secondSize 24 = .ok (.iaload, 1) := by decide +kernel
theorem dX3_secondSize_25 : decode cX3_secondSize 25 = .ok (.invokevirtual 57, 3) := by decide +kernel
theorem dX3_secondSize_28 : decode cX3_secondSize 28 = .ok (.goto 4, 3) := by decide +kernel
theorem dX3_secondSize_31 : decode cX3_secondSize 31 = .ok (.iconst 1, 1) := by decide +kernel
theorem dX3_secondSize_32 : decode cX3_secondSize 32 = .ok (.ireturn, 1) := by decide +kernel
theorem dX3_addKind_0 : decode cX3_addKind 0 = .ok (.aload_n 0, 1) := by decide +kernel
theorem dX3_addKind_1 : decode cX3_addKind 1 = .ok (.getfield 39, 3) := by decide +kernel
theorem dX3_addKind_4 : decode cX3_addKind 4 = .ok (.iconst 4, 1) := by decide +kernel
theorem dX3_addKind_5 : decode cX3_addKind 5 = .ok (.if_icmp .ge 56, 3) := by decide +kernel
theorem dX3_addKind_8 : decode cX3_addKind 8 = .ok (.aload_n 0, 1) := by decide +kernel
theorem dX3_addKind_9 : decode cX3_addKind 9 = .ok (.getfield 9, 3) := by decide +kernel
theorem dX3_addKind_12 : decode cX3_addKind 12 = .ok (.aload_n 0, 1) := by decide +kernel
theorem dX3_addKind_13 : decode cX3_addKind 13 = .ok (.getfield 39, 3) := by decide +kernel
theorem dX3_addKind_16 : decode cX3_addKind 16 = .ok (.iload_n 1, 1) := by decide +kernel
theorem dX3_addKind_17 : decode cX3_addKind 17 = .ok (.iastore, 1) := by decide +kernel
theorem dX3_addKind_18 : decode cX3_addKind 18 = .ok (.aload_n 0, 1) := by decide +kernel
theorem dX3_addKind_19 : decode cX3_addKind 19 = .ok (.getfield 15, 3) := by decide +kernel
theorem dX3_addKind_22 : decode cX3_addKind 22 = .ok (.aload_n 0, 1) := by decide +kernel
theorem dX3_addKind_23 : decode cX3_addKind 23 = .ok (.getfield 39, 3) := by decide +kernel
theorem dX3_addKind_26 : decode cX3_addKind 26 = .ok (.aload_n 0, 1) := by decide +kernel
theorem dX3_addKind_27 : decode cX3_addKind 27 = .ok (.getfield 43, 3) := by decide +kernel
theorem dX3_addKind_30 : decode cX3_addKind 30 = .ok (.iastore, 1) := by decide +kernel
theorem dX3_addKind_31 : decode cX3_addKind 31 = .ok (.aload_n 0, 1) := by decide +kernel
theorem dX3_addKind_32 : decode cX3_addKind 32 = .ok (.getfield 18, 3) := by decide +kernel
theorem dX3_addKind_35 : decode cX3_addKind 35 = .ok (.aload_n 0, 1) := by decide +kernel
theorem dX3_addKind_36 : decode cX3_addKind 36 = .ok (.getfield 39, 3) := by decide +kernel
theorem dX3_addKind_39 : decode cX3_addKind 39 = .ok (.iconst 0, 1) := by decide +kernel
theorem dX3_addKind_40 : decode cX3_addKind 40 = .ok (.iastore, 1) := by decide +kernel
theorem dX3_addKind_41 : decode cX3_addKind 41 = .ok (.aload_n 0, 1) := by decide +kernel
theorem dX3_addKind_42 : decode cX3_addKind 42 = .ok (.getfield 21, 3) := by decide +kernel
theorem dX3_addKind_45 : decode cX3_addKind 45 = .ok (.aload_n 0, 1) := by decide +kernel
theorem dX3_addKind_46 : decode cX3_addKind 46 = .ok (.getfield 39, 3) := by decide +kernel
theorem dX3_addKind_49 : decode cX3_addKind 49 = .ok (.iconst 0, 1) := by decide +kernel
theorem dX3_addKind_50 : decode cX3_addKind 50 = .ok (.iastore, 1) := by decide +kernel
theorem dX3_addKind_51 : decode cX3_addKind 51 = .ok (.aload_n 0, 1) := by decide +kernel
theorem dX3_addKind_52 : decode cX3_addKind 52 = .ok (.dup, 1) := by decide +kernel
theorem dX3_addKind_53 : decode cX3_addKind 53 = .ok (.getfield 39, 3) := by decide +kernel
theorem dX3_addKind_56 : decode cX3_addKind 56 = .ok (.iconst 1, 1) := by decide +kernel
theorem dX3_addKind_57 : decode cX3_addKind 57 = .ok (.iadd, 1) := by decide +kernel
theorem dX3_addKind_58 : decode cX3_addKind 58 = .ok (.putfield 39, 3) := by decide +kernel
theorem dX3_addKind_61 : decode cX3_addKind 61 = .ok (.return_, 1) := by decide +kernel
theorem dX3_addCon_0 : decode cX3_addCon 0 = .ok (.aload_n 0, 1) := by decide +kernel
theorem dX3_addCon_1 : decode cX3_addCon 1 = .ok (.getfield 39, 3) := by decide +kernel
theorem dX3_addCon_4 : decode cX3_addCon 4 = .ok (.iconst 1, 1) := by decide +kernel
theorem dX3_addCon_5 : decode cX3_addCon 5 = .ok (.isub, 1) := by decide +kernel
theorem dX3_addCon_6 : decode cX3_addCon 6 = .ok (.istore 6, 2) := by decide +kernel
theorem dX3_addCon_8 : decode cX3_addCon 8 = .ok (.aload_n 0, 1) := by decide +kernel
theorem dX3_addCon_9 : decode cX3_addCon 9 = .ok (.iload 6, 2) := by decide +kernel
theorem dX3_addCon_11 : decode cX3_addCon 11 = .ok (.invokevirtual 46, 3) := by decide +kernel
theorem dX3_addCon_14 : decode cX3_addCon 14 = .ok (.ifCond .eq 117, 3) := by decide +kernel
theorem dX3_addCon_17 : decode cX3_addCon 17 = .ok (.aload_n 0, 1) := by decide +kernel
theorem dX3_addCon_18 : decode cX3_addCon 18 = .ok (.getfield 18, 3) := by decide +kernel
theorem dX3_addCon_21 : decode cX3_addCon 21 = .ok (.iload 6, 2) := by decide +kernel
theorem dX3_addCon_23 : decode cX3_addCon 23 = .ok (.iaload, 1) := by decide +kernel
theorem dX3_addCon_24 : decode cX3_addCon 24 = .ok (.bipush 6, 2) := by decide +kernel
theorem dX3_addCon_26 : decode cX3_addCon 26 = .ok (.if_icmp .ge 105, 3) := by decide +kernel
theorem dX3_addCon_29 : decode cX3_addCon 29 = .ok (.aload_n 0, 1) := by decide +kernel
theorem dX3_addCon_30 : decode cX3_addCon 30 = .ok (.getfield 43, 3) := by decide +kernel
theorem dX3_addCon_33 : decode cX3_addCon 33 = .ok (.aload_n 0, 1) := by decide +kernel
theorem dX3_addCon_34 : decode cX3_addCon 34 = .ok (.getfield 24, 3) := by decide +kernel
theorem dX3_addCon_37 : decode cX3_addCon 37 = .ok (.arraylength, 1) := by decide +kernel
theorem dX3_addCon_38 : decode cX3_addCon 38 = .ok (.if_icmp .ge 93, 3) := by decide +kernel
theorem dX3_addCon_41 : decode cX3_addCon 41 = .ok (.aload_n 0, 1) := by decide +kernel
theorem dX3_addCon_42 : decode cX3_addCon 42 = .ok (.getfield 24, 3) := by decide +kernel
theorem dX3_addCon_45 : decode cX3_addCon 45 = .ok (.aload_n 0, 1) := by decide +kernel
theorem dX3_addCon_46 : decode cX3_addCon 46 = .ok (.getfield 43, 3) := by decide +kernel
theorem dX3_addCon_49 : decode cX3_addCon 49 = .ok (.iload_n 1, 1) := by decide +kernel
theorem dX3_addCon_50 : decode cX3_addCon 50 = .ok (.iastore, 1) := by decide +kernel
theorem dX3_addCon_51 : decode cX3_addCon 51 = .ok (.aload_n 0, 1) := by decide +kernel
theorem dX3_addCon_52 : decode cX3_addCon 52 = .ok (.getfield 27, 3) := by decide +kernel
theorem dX3_addCon_55 : decode cX3_addCon 55 = .ok (.aload_n 0, 1) := by decide +kernel
theorem dX3_addCon_56 : decode cX3_addCon 56 = .ok (.getfield 43, 3) := by decide +kernel
theorem dX3_addCon_59 : decode cX3_addCon 59 = .ok (.aload_n 0, 1) := by decide +kernel
theorem dX3_addCon_60 : decode cX3_addCon 60 = .ok (.getfield 21, 3) := by decide +kernel
theorem dX3_addCon_63 : decode cX3_addCon 63 = .ok (.iload 6, 2) := by decide +kernel
theorem dX3_addCon_65 : decode cX3_addCon 65 = .ok (.iaload, 1) := by decide +kernel
theorem dX3_addCon_66 : decode cX3_addCon 66 = .ok (.iastore, 1) := by decide +kernel
theorem dX3_addCon_67 : decode cX3_addCon 67 = .ok (.aload_n 0, 1) := by decide +kernel
theorem dX3_addCon_68 : decode cX3_addCon 68 = .ok (.getfield 30, 3) := by decide +kernel
theorem dX3_addCon_71 : decode cX3_addCon 71 = .ok (.aload_n 0, 1) := by decide +kernel
theorem dX3_addCon_72 : decode cX3_addCon 72 = .ok (.getfield 43, 3) := by decide +kernel
theorem dX3_addCon_75 : decode cX3_addCon 75 = .ok (.iload_n 2, 1) := by decide +kernel
theorem dX3_addCon_76 : decode cX3_addCon 76 = .ok (.iastore, 1) := by decide +kernel
theorem dX3_addCon_77 : decode cX3_addCon 77 = .ok (.aload_n 0, 1) := by decide +kernel
theorem dX3_addCon_78 : decode cX3_addCon 78 = .ok (.getfield 33, 3) := by decide +kernel
theorem dX3_addCon_81 : decode cX3_addCon 81 = .ok (.aload_n 0, 1) := by decide +kernel
theorem dX3_addCon_82 : decode cX3_addCon 82 = .ok (.getfield 43, 3) := by decide +kernel
theorem dX3_addCon_85 : decode cX3_addCon 85 = .ok (.iload_n 3, 1) := by decide +kernel
theorem dX3_addCon_86 : decode cX3_addCon 86 = .ok (.iastore, 1) := by decide +kernel
theorem dX3_addCon_87 : decode cX3_addCon 87 = .ok (.aload_n 0, 1) := by decide +kernel
theorem dX3_addCon_88 : decode cX3_addCon 88 = .ok (.getfield 36, 3) := by decide +kernel
theorem dX3_addCon_91 : decode cX3_addCon 91 = .ok (.aload_n 0, 1) := by decide +kernel
theorem dX3_addCon_92 : decode cX3_addCon 92 = .ok (.getfield 43, 3) := by decide +kernel
theorem dX3_addCon_95 : decode cX3_addCon 95 = .ok (.iload 4, 2) := by decide +kernel
theorem dX3_addCon_97 : decode cX3_addCon 97 = .ok (.iastore, 1) := by decide +kernel
theorem dX3_addCon_98 : decode cX3_addCon 98 = .ok (.aload_n 0, 1) := by decide +kernel
theorem dX3_addCon_99 : decode cX3_addCon 99 = .ok (.dup, 1) := by decide +kernel
theorem dX3_addCon_100 : decode cX3_addCon 100 = .ok (.getfield 43, 3) := by decide +kernel
theorem dX3_addCon_103 : decode cX3_addCon 103 = .ok (.iconst 1, 1) := by decide +kernel
theorem dX3_addCon_104 : decode cX3_addCon 104 = .ok (.iadd, 1) := by decide +kernel
theorem dX3_addCon_105 : decode cX3_addCon 105 = .ok (.putfield 43, 3) := by decide +kernel
theorem dX3_addCon_108 : decode cX3_addCon 108 = .ok (.aload_n 0, 1) := by decide +kernel
theorem dX3_addCon_109 : decode cX3_addCon 109 = .ok (.getfield 18, 3) := by decide +kernel
theorem dX3_addCon_112 : decode cX3_addCon 112 = .ok (.iload 6, 2) := by decide +kernel
theorem dX3_addCon_114 : decode cX3_addCon 114 = .ok (.dup2, 1) := by decide +kernel
theorem dX3_addCon_115 : decode cX3_addCon 115 = .ok (.iaload, 1) := by decide +kernel
theorem dX3_addCon_116 : decode cX3_addCon 116 = .ok (.iconst 1, 1) := by decide +kernel
theorem dX3_addCon_117 : decode cX3_addCon 117 = .ok (.iadd, 1) := by decide +kernel
theorem dX3_addCon_118 : decode cX3_addCon 118 = .ok (.iastore, 1) := by decide +kernel
theorem dX3_addCon_119 : decode cX3_addCon 119 = .ok (.aload_n 0, 1) := by decide +kernel
theorem dX3_addCon_120 : decode cX3_addCon 120 = .ok (.getfield 21, 3) := by decide +kernel
theorem dX3_addCon_123 : decode cX3_addCon 123 = .ok (.iload 6, 2) := by decide +kernel
theorem dX3_addCon_125 : decode cX3_addCon 125 = .ok (.dup2, 1) := by decide +kernel
theorem dX3_addCon_126 : decode cX3_addCon 126 = .ok (.iaload, 1) := by decide +kernel
theorem dX3_addCon_127 : decode cX3_addCon 127 = .ok (.iload 5, 2) := by decide +kernel
theorem dX3_addCon_129 : decode cX3_addCon 129 = .ok (.iadd, 1) := by decide +kernel
theorem dX3_addCon_130 : decode cX3_addCon 130 = .ok (.iastore, 1) := by decide +kernel
theorem dX3_addCon_131 : decode cX3_addCon 131 = .ok (.return_, 1) := by decide +kernel
theorem dX4_init_0 : decode cX4_init 0 = .ok (.aload_n 0, 1) := by decide +kernel
theorem dX4_init_1 : decode cX4_init 1 = .ok (.invokespecial 3, 3) := by decide +kernel
theorem dX4_init_4 : decode cX4_init 4 = .ok (.aload_n 0, 1) := by decide +kernel
theorem dX4_init_5 : decode cX4_init 5 = .ok (.sipush 4096, 3) := by decide +kernel
theorem dX4_init_8 : decode cX4_init 8 = .ok (.newarray .int, 2) := by decide +kernel
theorem dX4_init_10 : decode cX4_init 10 = .ok (.putfield 9, 3) := by decide +kernel
theorem dX4_init_13 : decode cX4_init 13 = .ok (.aload_n 0, 1) := by decide +kernel
theorem dX4_init_14 : decode cX4_init 14 = .ok (.sipush 4096, 3) := by decide +kernel
theorem dX4_init_17 : decode cX4_init 17 = .ok (.newarray .int, 2) := by decide +kernel
theorem dX4_init_19 : decode cX4_init 19 = .ok (.putfield 15, 3) := by decide +kernel
theorem dX4_init_22 : decode cX4_init 22 = .ok (.return_, 1) := by decide +kernel
theorem dX4_renew_0 : decode cX4_renew 0 = .ok (.aload_n 0, 1) := by decide +kernel
theorem dX4_renew_1 : decode cX4_renew 1 = .ok (.dup, 1) := by decide +kernel
theorem dX4_renew_2 : decode cX4_renew 2 = .ok (.getfield 18, 3) := by decide +kernel
theorem dX4_renew_5 : decode cX4_renew 5 = .ok (.iconst 1, 1) := by decide +kernel
theorem dX4_renew_6 : decode cX4_renew 6 = .ok (.iadd, 1) := by decide +kernel
theorem dX4_renew_7 : decode cX4_renew 7 = .ok (.putfield 18, 3) := by decide +kernel
theorem dX4_renew_10 : decode cX4_renew 10 = .ok (.return_, 1) := by decide +kernel
theorem dX4_isNew_0 : decode cX4_isNew 0 = .ok (.iload_n 1, 1) := by decide +kernel
theorem dX4_isNew_1 : decode cX4_isNew 1 = .ok (.ifCond .lt 23, 3) := by decide +kernel
theorem dX4_isNew_4 : decode cX4_isNew 4 = .ok (.iload_n 1, 1) := by decide +kernel
theorem dX4_isNew_5 : decode cX4_isNew 5 = .ok (.sipush 4096, 3) := by decide +kernel
theorem dX4_isNew_8 : decode cX4_isNew 8 = .ok (.if_icmp .ge 16, 3) := by decide +kernel
theorem dX4_isNew_11 : decode cX4_isNew 11 = .ok (.aload_n 0, 1) := by decide +kernel
theorem dX4_isNew_12 : decode cX4_isNew 12 = .ok (.getfield 9, 3) := by decide +kernel
theorem dX4_isNew_15 : decode cX4_isNew 15 = .ok (.iload_n 1, 1) := by decide +kernel
theorem dX4_isNew_16 : decode cX4_isNew 16 = .ok (.iaload, 1) := by decide +kernel
theorem dX4_isNew_17 : decode cX4_isNew 17 = .ok (.aload_n 0, 1) := by decide +kernel
theorem dX4_isNew_18 : decode cX4_isNew 18 = .ok (.getfield 18, 3) := by decide +kernel
theorem dX4_isNew_21 : decode cX4_isNew 21 = .ok (.if_icmp .ne 5, 3) := by decide +kernel
theorem dX4_isNew_24 : decode cX4_isNew 24 = .ok (.iconst 0, 1) := by decide +kernel
theorem dX4_isNew_25 : decode cX4_isNew 25 = .ok (.ireturn, 1) := by decide +kernel
theorem dX4_isNew_26 : decode cX4_isNew 26 = .ok (.aload_n 0, 1) := by decide +kernel
theorem dX4_isNew_27 : decode cX4_isNew 27 = .ok (.getfield 9, 3) := by decide +kernel
end
section
theorem dX4_isNew_30 : decode cX4_isNew 30 = .ok (.iload_n 1, 1) := by decide +kernel
theorem dX4_isNew_31 : decode cX4_isNew 31 = .ok (.aload_n 0, 1) := by decide +kernel
theorem dX4_isNew_32 : decode cX4_isNew 32 = .ok (.getfield 18, 3) := by decide +kernel
theorem dX4_isNew_35 : decode cX4_isNew 35 = .ok (.iastore, 1) := by decide +kernel
theorem dX4_isNew_36 : decode cX4_isNew 36 = .ok (.iconst 1, 1) := by decide +kernel
theorem dX4_isNew_37 : decode cX4_isNew 37 = .ok (.ireturn, 1) := by decide +kernel
theorem dX5_init_0 : decode cX5_init 0 = .ok (.aload_n 0, 1) := by decide +kernel
theorem dX5_init_1 : decode cX5_init 1 = .ok (.invokespecial 3, 3) := by decide +kernel
theorem dX5_init_4 : decode cX5_init 4 = .ok (.aload_n 0, 1) := by decide +kernel
theorem dX5_init_5 : decode cX5_init 5 = .ok (.bipush 12, 2) := by decide +kernel
theorem dX5_init_7 : decode cX5_init 7 = .ok (.newarray .int, 2) := by decide +kernel
theorem dX5_init_9 : decode cX5_init 9 = .ok (.putfield 9, 3) := by decide +kernel
theorem dX5_init_12 : decode cX5_init 12 = .ok (.return_, 1) := by decide +kernel
theorem dX5_begin_0 : decode cX5_begin 0 = .ok (.aload_n 0, 1) := by decide +kernel
theorem dX5_begin_1 : decode cX5_begin 1 = .ok (.iconst 0, 1) := by decide +kernel
theorem dX5_begin_2 : decode cX5_begin 2 = .ok (.iload_n 1, 1) := by decide +kernel
theorem dX5_begin_3 : decode cX5_begin 3 = .ok (.bipush 12, 2) := by decide +kernel
theorem dX5_begin_5 : decode cX5_begin 5 = .ok (.invokestatic 15, 3) := by decide +kernel
theorem dX5_begin_8 : decode cX5_begin 8 = .ok (.invokestatic 21, 3) := by decide +kernel
theorem dX5_begin_11 : decode cX5_begin 11 = .ok (.putfield 24, 3) := by decide +kernel
theorem dX5_begin_14 : decode cX5_begin 14 = .ok (.iconst 0, 1) := by decide +kernel
theorem dX5_begin_15 : decode cX5_begin 15 = .ok (.istore_n 3, 1) := by decide +kernel
theorem dX5_begin_16 : decode cX5_begin 16 = .ok (.iload_n 3, 1) := by decide +kernel
theorem dX5_begin_17 : decode cX5_begin 17 = .ok (.aload_n 0, 1) := by decide +kernel
theorem dX5_begin_18 : decode cX5_begin 18 = .ok (.getfield 24, 3) := by decide +kernel
theorem dX5_begin_21 : decode cX5_begin 21 = .ok (.if_icmp .ge 16, 3) := by decide +kernel
theorem dX5_begin_24 : decode cX5_begin 24 = .ok (.aload_n 0, 1) := by decide +kernel
theorem dX5_begin_25 : decode cX5_begin 25 = .ok (.getfield 9, 3) := by decide +kernel
theorem dX5_begin_28 : decode cX5_begin 28 = .ok (.iload_n 3, 1) := by decide +kernel
theorem dX5_begin_29 : decode cX5_begin 29 = .ok (.iload_n 3, 1) := by decide +kernel
theorem dX5_begin_30 : decode cX5_begin 30 = .ok (.iastore, 1) := by decide +kernel
theorem dX5_begin_31 : decode cX5_begin 31 = .ok (.iinc 3 1, 3) := by decide +kernel
theorem dX5_begin_34 : decode cX5_begin 34 = .ok (.goto (-18), 3) := by decide +kernel
theorem dX5_begin_37 : decode cX5_begin 37 = .ok (.aload_n 0, 1) := by decide +kernel
theorem dX5_begin_38 : decode cX5_begin 38 = .ok (.sipush 255, 3) := by decide +kernel
theorem dX5_begin_41 : decode cX5_begin 41 = .ok (.putfield 28, 3) := by decide +kernel
theorem dX5_begin_44 : decode cX5_begin 44 = .ok (.aload_n 0, 1) := by decide +kernel
theorem dX5_begin_45 : decode cX5_begin 45 = .ok (.iload_n 2, 1) := by decide +kernel
theorem dX5_begin_46 : decode cX5_begin 46 = .ok (.putfield 31, 3) := by decide +kernel
theorem dX5_begin_49 : decode cX5_begin 49 = .ok (.return_, 1) := by decide +kernel
theorem dX5_copy_0 : decode cX5_copy 0 = .ok (.iconst 0, 1) := by decide +kernel
theorem dX5_copy_1 : decode cX5_copy 1 = .ok (.istore_n 2, 1) := by decide +kernel
theorem dX5_copy_2 : decode cX5_copy 2 = .ok (.iload_n 2, 1) := by decide +kernel
theorem dX5_copy_3 : decode cX5_copy 3 = .ok (.bipush 12, 2) := by decide +kernel
theorem dX5_copy_5 : decode cX5_copy 5 = .ok (.if_icmp .ge 21, 3) := by decide +kernel
theorem dX5_copy_8 : decode cX5_copy 8 = .ok (.aload_n 0, 1) := by decide +kernel
theorem dX5_copy_9 : decode cX5_copy 9 = .ok (.getfield 9, 3) := by decide +kernel
theorem dX5_copy_12 : decode cX5_copy 12 = .ok (.iload_n 2, 1) := by decide +kernel
theorem dX5_copy_13 : decode cX5_copy 13 = .ok (.aload_n 1, 1) := by decide +kernel
theorem dX5_copy_14 : decode cX5_copy 14 = .ok (.getfield 9, 3) := by decide +kernel
theorem dX5_copy_17 : decode cX5_copy 17 = .ok (.iload_n 2, 1) := by decide +kernel
theorem dX5_copy_18 : decode cX5_copy 18 = .ok (.iaload, 1) := by decide +kernel
theorem dX5_copy_19 : decode cX5_copy 19 = .ok (.iastore, 1) := by decide +kernel
theorem dX5_copy_20 : decode cX5_copy 20 = .ok (.iinc 2 1, 3) := by decide +kernel
theorem dX5_copy_23 : decode cX5_copy 23 = .ok (.goto (-21), 3) := by decide +kernel
theorem dX5_copy_26 : decode cX5_copy 26 = .ok (.aload_n 0, 1) := by decide +kernel
theorem dX5_copy_27 : decode cX5_copy 27 = .ok (.aload_n 1, 1) := by decide +kernel
theorem dX5_copy_28 : decode cX5_copy 28 = .ok (.getfield 24, 3) := by decide +kernel
theorem dX5_copy_31 : decode cX5_copy 31 = .ok (.putfield 24, 3) := by decide +kernel
theorem dX5_copy_34 : decode cX5_copy 34 = .ok (.aload_n 0, 1) := by decide +kernel
theorem dX5_copy_35 : decode cX5_copy 35 = .ok (.aload_n 1, 1) := by decide +kernel
theorem dX5_copy_36 : decode cX5_copy 36 = .ok (.getfield 28, 3) := by decide +kernel
theorem dX5_copy_39 : decode cX5_copy 39 = .ok (.putfield 28, 3) := by decide +kernel
theorem dX5_copy_42 : decode cX5_copy 42 = .ok (.aload_n 0, 1) := by decide +kernel
theorem dX5_copy_43 : decode cX5_copy 43 = .ok (.aload_n 1, 1) := by decide +kernel
theorem dX5_copy_44 : decode cX5_copy 44 = .ok (.getfield 31, 3) := by decide +kernel
theorem dX5_copy_47 : decode cX5_copy 47 = .ok (.putfield 31, 3) := by decide +kernel
theorem dX5_copy_50 : decode cX5_copy 50 = .ok (.return_, 1) := by decide +kernel
theorem dX5_isPlace_0 : decode cX5_isPlace 0 = .ok (.iload_n 1, 1) := by decide +kernel
theorem dX5_isPlace_1 : decode cX5_isPlace 1 = .ok (.ifCond .lt 15, 3) := by decide +kernel
theorem dX5_isPlace_4 : decode cX5_isPlace 4 = .ok (.iload_n 1, 1) := by decide +kernel
theorem dX5_isPlace_5 : decode cX5_isPlace 5 = .ok (.aload_n 0, 1) := by decide +kernel
theorem dX5_isPlace_6 : decode cX5_isPlace 6 = .ok (.getfield 24, 3) := by decide +kernel
theorem dX5_isPlace_9 : decode cX5_isPlace 9 = .ok (.if_icmp .ge 7, 3) := by decide +kernel
theorem dX5_isPlace_12 : decode cX5_isPlace 12 = .ok (.iconst 1, 1) := by decide +kernel
theorem dX5_isPlace_13 : decode cX5_isPlace 13 = .ok (.goto 4, 3) := by decide +kernel
theorem dX5_isPlace_16 : decode cX5_isPlace 16 = .ok (.iconst 0, 1) := by decide +kernel
theorem dX5_isPlace_17 : decode cX5_isPlace 17 = .ok (.ireturn, 1) := by decide +kernel
theorem dX5_armAt_0 : decode cX5_armAt 0 = .ok (.aload_n 0, 1) := by decide +kernel
theorem dX5_armAt_1 : decode cX5_armAt 1 = .ok (.iload_n 1, 1) := by decide +kernel
theorem dX5_armAt_2 : decode cX5_armAt 2 = .ok (.invokevirtual 34, 3) := by decide +kernel
theorem dX5_armAt_5 : decode cX5_armAt 5 = .ok (.ifCond .eq 12, 3) := by decide +kernel
theorem dX5_armAt_8 : decode cX5_armAt 8 = .ok (.aload_n 0, 1) := by decide +kernel
theorem dX5_armAt_9 : decode cX5_armAt 9 = .ok (.getfield 9, 3) := by decide +kernel
theorem dX5_armAt_12 : decode cX5_armAt 12 = .ok (.iload_n 1, 1) := by decide +kernel
theorem dX5_armAt_13 : decode cX5_armAt 13 = .ok (.iaload, 1) := by decide +kernel
theorem dX5_armAt_14 : decode cX5_armAt 14 = .ok (.goto 4, 3) := by decide +kernel
theorem dX5_armAt_17 : decode cX5_armAt 17 = .ok (.iconst (-1), 1) := by decide +kernel
theorem dX5_armAt_18 : decode cX5_armAt 18 = .ok (.ireturn, 1) := by decide +kernel
theorem dX5_exchange_0 : decode cX5_exchange 0 = .ok (.aload_n 0, 1) := by decide +kernel
theorem dX5_exchange_1 : decode cX5_exchange 1 = .ok (.iload_n 1, 1) := by decide +kernel
theorem dX5_exchange_2 : decode cX5_exchange 2 = .ok (.invokevirtual 34, 3) := by decide +kernel
theorem dX5_exchange_5 : decode cX5_exchange 5 = .ok (.ifCond .eq 37, 3) := by decide +kernel
theorem dX5_exchange_8 : decode cX5_exchange 8 = .ok (.aload_n 0, 1) := by decide +kernel
theorem dX5_exchange_9 : decode cX5_exchange 9 = .ok (.iload_n 2, 1) := by decide +kernel
theorem dX5_exchange_10 : decode cX5_exchange 10 = .ok (.invokevirtual 34, 3) := by decide +kernel
theorem dX5_exchange_13 : decode cX5_exchange 13 = .ok (.ifCond .eq 29, 3) := by decide +kernel
theorem dX5_exchange_16 : decode cX5_exchange 16 = .ok (.aload_n 0, 1) := by decide +kernel
theorem dX5_exchange_17 : decode cX5_exchange 17 = .ok (.getfield 9, 3) := by decide +kernel
theorem dX5_exchange_20 : decode cX5_exchange 20 = .ok (.iload_n 1, 1) := by decide +kernel
theorem dX5_exchange_21 : decode cX5_exchange 21 = .ok (.iaload, 1) := by decide +kernel
theorem dX5_exchange_22 : decode cX5_exchange 22 = .ok (.istore_n 3, 1) := by decide +kernel
theorem dX5_exchange_23 : decode cX5_exchange 23 = .ok (.aload_n 0, 1) := by decide +kernel
theorem dX5_exchange_24 : decode cX5_exchange 24 = .ok (.getfield 9, 3) := by decide +kernel
theorem dX5_exchange_27 : decode cX5_exchange 27 = .ok (.iload_n 1, 1) := by decide +kernel
theorem dX5_exchange_28 : decode cX5_exchange 28 = .ok (.aload_n 0, 1) := by decide +kernel
theorem dX5_exchange_29 : decode cX5_exchange 29 = .ok (.getfield 9, 3) := by decide +kernel
theorem dX5_exchange_32 : decode cX5_exchange 32 = .ok (.iload_n 2, 1) := by decide +kernel
theorem dX5_exchange_33 : decode cX5_exchange 33 = .ok (.iaload, 1) := by decide +kernel
theorem dX5_exchange_34 : decode cX5_exchange 34 = .ok (.iastore, 1) := by decide +kernel
theorem dX5_exchange_35 : decode cX5_exchange 35 = .ok (.aload_n 0, 1) := by decide +kernel
theorem dX5_exchange_36 : decode cX5_exchange 36 = .ok (.getfield 9, 3) := by decide +kernel
theorem dX5_exchange_39 : decode cX5_exchange 39 = .ok (.iload_n 2, 1) := by decide +kernel
theorem dX5_exchange_40 : decode cX5_exchange 40 = .ok (.iload_n 3, 1) := by decide +kernel
theorem dX5_exchange_41 : decode cX5_exchange 41 = .ok (.iastore, 1) := by decide +kernel
theorem dX5_exchange_42 : decode cX5_exchange 42 = .ok (.return_, 1) := by decide +kernel
theorem dX5_takeOut_0 : decode cX5_takeOut 0 = .ok (.aload_n 0, 1) := by decide +kernel
theorem dX5_takeOut_1 : decode cX5_takeOut 1 = .ok (.iload_n 1, 1) := by decide +kernel
theorem dX5_takeOut_2 : decode cX5_takeOut 2 = .ok (.invokevirtual 34, 3) := by decide +kernel
theorem dX5_takeOut_5 : decode cX5_takeOut 5 = .ok (.ifCond .eq 45, 3) := by decide +kernel
theorem dX5_takeOut_8 : decode cX5_takeOut 8 = .ok (.iload_n 1, 1) := by decide +kernel
theorem dX5_takeOut_9 : decode cX5_takeOut 9 = .ok (.istore_n 2, 1) := by decide +kernel
theorem dX5_takeOut_10 : decode cX5_takeOut 10 = .ok (.iload_n 2, 1) := by decide +kernel
theorem dX5_takeOut_11 : decode cX5_takeOut 11 = .ok (.iconst 1, 1) := by decide +kernel
theorem dX5_takeOut_12 : decode cX5_takeOut 12 = .ok (.iadd, 1) := by decide +kernel
theorem dX5_takeOut_13 : decode cX5_takeOut 13 = .ok (.aload_n 0, 1) := by decide +kernel
theorem dX5_takeOut_14 : decode cX5_takeOut 14 = .ok (.getfield 24, 3) := by decide +kernel
theorem dX5_takeOut_17 : decode cX5_takeOut 17 = .ok (.if_icmp .ge 23, 3) := by decide +kernel
theorem dX5_takeOut_20 : decode cX5_takeOut 20 = .ok (.aload_n 0, 1) := by decide +kernel
theorem dX5_takeOut_21 : decode cX5_takeOut 21 = .ok (.getfield 9, 3) := by decide +kernel
theorem dX5_takeOut_24 : decode cX5_takeOut 24 = .ok (.iload_n 2, 1) := by decide +kernel
theorem dX5_takeOut_25 : decode cX5_takeOut 25 = .ok (.aload_n 0, 1) := by decide +kernel
theorem dX5_takeOut_26 : decode cX5_takeOut 26 = .ok (.getfield 9, 3) := by decide +kernel
theorem dX5_takeOut_29 : decode cX5_takeOut 29 = .ok (.iload_n 2, 1) := by decide +kernel
theorem dX5_takeOut_30 : decode cX5_takeOut 30 = .ok (.iconst 1, 1) := by decide +kernel
theorem dX5_takeOut_31 : decode cX5_takeOut 31 = .ok (.iadd, 1) := by decide +kernel
theorem dX5_takeOut_32 : decode cX5_takeOut 32 = .ok (.iaload, 1) := by decide +kernel
theorem dX5_takeOut_33 : decode cX5_takeOut 33 = .ok (.iastore, 1) := by decide +kernel
theorem dX5_takeOut_34 : decode cX5_takeOut 34 = .ok (.iinc 2 1, 3) := by decide +kernel
theorem dX5_takeOut_37 : decode cX5_takeOut 37 = .ok (.goto (-27), 3) := by decide +kernel
theorem dX5_takeOut_40 : decode cX5_takeOut 40 = .ok (.aload_n 0, 1) := by decide +kernel
theorem dX5_takeOut_41 : decode cX5_takeOut 41 = .ok (.dup, 1) := by decide +kernel
theorem dX5_takeOut_42 : decode cX5_takeOut 42 = .ok (.getfield 24, 3) := by decide +kernel
theorem dX5_takeOut_45 : decode cX5_takeOut 45 = .ok (.iconst 1, 1) := by decide +kernel
theorem dX5_takeOut_46 : decode cX5_takeOut 46 = .ok (.isub, 1) := by decide +kernel
theorem dX5_takeOut_47 : decode cX5_takeOut 47 = .ok (.putfield 24, 3) := by decide +kernel
theorem dX5_takeOut_50 : decode cX5_takeOut 50 = .ok (.return_, 1) := by decide +kernel
theorem dX5_allArms_0 : decode cX5_allArms 0 = .ok (.iconst 0, 1) := by decide +kernel
theorem dX5_allArms_1 : decode cX5_allArms 1 = .ok (.istore_n 1, 1) := by decide +kernel
theorem dX5_allArms_2 : decode cX5_allArms 2 = .ok (.iconst 0, 1) := by decide +kernel
theorem dX5_allArms_3 : decode cX5_allArms 3 = .ok (.istore_n 2, 1) := by decide +kernel
theorem dX5_allArms_4 : decode cX5_allArms 4 = .ok (.iload_n 2, 1) := by decide +kernel
theorem dX5_allArms_5 : decode cX5_allArms 5 = .ok (.aload_n 0, 1) := by decide +kernel
theorem dX5_allArms_6 : decode cX5_allArms 6 = .ok (.getfield 24, 3) := by decide +kernel
theorem dX5_allArms_9 : decode cX5_allArms 9 = .ok (.if_icmp .ge 20, 3) := by decide +kernel
theorem dX5_allArms_12 : decode cX5_allArms 12 = .ok (.iload_n 1, 1) := by decide +kernel
theorem dX5_allArms_13 : decode cX5_allArms 13 = .ok (.iconst 1, 1) := by decide +kernel
theorem dX5_allArms_14 : decode cX5_allArms 14 = .ok (.aload_n 0, 1) := by decide +kernel
theorem dX5_allArms_15 : decode cX5_allArms 15 = .ok (.getfield 9, 3) := by decide +kernel
theorem dX5_allArms_18 : decode cX5_allArms 18 = .ok (.iload_n 2, 1) := by decide +kernel
theorem dX5_allArms_19 : decode cX5_allArms 19 = .ok (.iaload, 1) := by decide +kernel
theorem dX5_allArms_20 : decode cX5_allArms 20 = .ok (.ishl, 1) := by decide +kernel
theorem dX5_allArms_21 : decode cX5_allArms 21 = .ok (.ior, 1) := by decide +kernel
theorem dX5_allArms_22 : decode cX5_allArms 22 = .ok (.istore_n 1, 1) := by decide +kernel
theorem dX5_allArms_23 : decode cX5_allArms 23 = .ok (.iinc 2 1, 3) := by decide +kernel
theorem dX5_allArms_26 : decode cX5_allArms 26 = .ok (.goto (-22), 3) := by decide +kernel
theorem dX5_allArms_29 : decode cX5_allArms 29 = .ok (.iload_n 1, 1) := by decide +kernel
theorem dX5_allArms_30 : decode cX5_allArms 30 = .ok (.ireturn, 1) := by decide +kernel
theorem dX5_firstOf_0 : decode cX5_firstOf 0 = .ok (.iconst 0, 1) := by decide +kernel
theorem dX5_firstOf_1 : decode cX5_firstOf 1 = .ok (.istore_n 2, 1) := by decide +kernel
theorem dX5_firstOf_2 : decode cX5_firstOf 2 = .ok (.iload_n 2, 1) := by decide +kernel
theorem dX5_firstOf_3 : decode cX5_firstOf 3 = .ok (.aload_n 0, 1) := by decide +kernel
theorem dX5_firstOf_4 : decode cX5_firstOf 4 = .ok (.getfield 24, 3) := by decide +kernel
theorem dX5_firstOf_7 : decode cX5_firstOf 7 = .ok (.if_icmp .ge 29, 3) := by decide +kernel
theorem dX5_firstOf_10 : decode cX5_firstOf 10 = .ok (.iload_n 1, 1) := by decide +kernel
theorem dX5_firstOf_11 : decode cX5_firstOf 11 = .ok (.aload_n 0, 1) := by decide +kernel
theorem dX5_firstOf_12 : decode cX5_firstOf 12 = .ok (.getfield 9, 3) := by decide +kernel
theorem dX5_firstOf_15 : decode cX5_firstOf 15 = .ok (.iload_n 2, 1) := by decide +kernel
theorem dX5_firstOf_16 : decode cX5_firstOf 16 = .ok (.iaload, 1) := by decide +kernel
theorem dX5_firstOf_17 : decode cX5_firstOf 17 = .ok (.invokestatic 38, 3) := by decide +kernel
theorem dX5_firstOf_20 : decode cX5_firstOf 20 = .ok (.ifCond .eq 10, 3) := by decide +kernel
theorem dX5_firstOf_23 : decode cX5_firstOf 23 = .ok (.aload_n 0, 1) := by decide +kernel
theorem dX5_firstOf_24 : decode cX5_firstOf 24 = .ok (.getfield 9, 3) := by decide +kernel
theorem dX5_firstOf_27 : decode cX5_firstOf 27 = .ok (.iload_n 2, 1) := by decide +kernel
theorem dX5_firstOf_28 : decode cX5_firstOf 28 = .ok (.iaload, 1) := by decide +kernel
theorem dX5_firstOf_29 : decode cX5_firstOf 29 = .ok (.ireturn, 1) := by decide +kernel
theorem dX5_firstOf_30 : decode cX5_firstOf 30 = .ok (.iinc 2 1, 3) := by decide +kernel
theorem dX5_firstOf_33 : decode cX5_firstOf 33 = .ok (.goto (-31), 3) := by decide +kernel
theorem dX5_firstOf_36 : decode cX5_firstOf 36 = .ok (.iconst (-1), 1) := by decide +kernel
theorem dX5_firstOf_37 : decode cX5_firstOf 37 = .ok (.ireturn, 1) := by decide +kernel
theorem dX5_unguarded_0 : decode cX5_unguarded 0 = .ok (.iconst 0, 1) := by decide +kernel
theorem dX5_unguarded_1 : decode cX5_unguarded 1 = .ok (.istore_n 3, 1) := by decide +kernel
theorem dX5_unguarded_2 : decode cX5_unguarded 2 = .ok (.iconst 0, 1) := by decide +kernel
theorem dX5_unguarded_3 : decode cX5_unguarded 3 = .ok (.istore 4, 2) := by decide +kernel
theorem dX5_unguarded_5 : decode cX5_unguarded 5 = .ok (.iload 4, 2) := by decide +kernel
theorem dX5_unguarded_7 : decode cX5_unguarded 7 = .ok (.iload_n 2, 1) := by decide +kernel
theorem dX5_unguarded_8 : decode cX5_unguarded 8 = .ok (.if_icmp .ge 45, 3) := by decide +kernel
theorem dX5_unguarded_11 : decode cX5_unguarded 11 = .ok (.iload 4, 2) := by decide +kernel
theorem dX5_unguarded_13 : decode cX5_unguarded 13 = .ok (.aload_n 0, 1) := by decide +kernel
theorem dX5_unguarded_14 : decode cX5_unguarded 14 = .ok (.getfield 24, 3) := by decide +kernel
theorem dX5_unguarded_17 : decode cX5_unguarded 17 = .ok (.if_icmp .ge 36, 3) := by decide +kernel
theorem dX5_unguarded_20 : decode cX5_unguarded 20 = .ok (.aload_n 1, 1) := by decide +kernel
theorem dX5_unguarded_21 : decode cX5_unguarded 21 = .ok (.aload_n 0, 1) := by decide +kernel
theorem dX5_unguarded_22 : decode cX5_unguarded 22 = .ok (.getfield 9, 3) := by decide +kernel
theorem dX5_unguarded_25 : decode cX5_unguarded 25 = .ok (.iload 4, 2) := by decide +kernel
theorem dX5_unguarded_27 : decode cX5_unguarded 27 = .ok (.iaload, 1) := by decide +kernel
theorem dX5_unguarded_28 : decode cX5_unguarded 28 = .ok (.invokevirtual 42, 3) := by decide +kernel
theorem dX5_unguarded_31 : decode cX5_unguarded 31 = .ok (.iconst (-1), 1) := by decide +kernel
theorem dX5_unguarded_32 : decode cX5_unguarded 32 = .ok (.if_icmp .ne 15, 3) := by decide +kernel
theorem dX5_unguarded_35 : decode cX5_unguarded 35 = .ok (.iload_n 3, 1) := by decide +kernel
theorem dX5_unguarded_36 : decode cX5_unguarded 36 = .ok (.iconst 1, 1) := by decide +kernel
theorem dX5_unguarded_37 : decode cX5_unguarded 37 = .ok (.aload_n 0, 1) := by decide +kernel
theorem dX5_unguarded_38 : decode cX5_unguarded 38 = .ok (.getfield 9, 3) := by decide +kernel
theorem dX5_unguarded_41 : decode cX5_unguarded 41 = .ok (.iload 4, 2) := by decide +kernel
theorem dX5_unguarded_43 : decode cX5_unguarded 43 = .ok (.iaload, 1) := by decide +kernel
theorem dX5_unguarded_44 : decode cX5_unguarded 44 = .ok (.ishl, 1) := by decide +kernel
theorem dX5_unguarded_45 : decode cX5_unguarded 45 = .ok (.ior, 1) := by decide +kernel
theorem dX5_unguarded_46 : decode cX5_unguarded 46 = .ok (.istore_n 3, 1) := by decide +kernel
theorem dX5_unguarded_47 : decode cX5_unguarded 47 = .ok (.iinc 4 1, 3) := by decide +kernel
theorem dX5_unguarded_50 : decode cX5_unguarded 50 = .ok (.goto (-45), 3) := by decide +kernel
theorem dX5_unguarded_53 : decode cX5_unguarded 53 = .ok (.iload_n 3, 1) := by decide +kernel
theorem dX5_unguarded_54 : decode cX5_unguarded 54 = .ok (.ireturn, 1) := by decide +kernel
theorem dX5_placeTaking_0 : decode cX5_placeTaking 0 = .ok (.iconst 0, 1) := by decide +kernel
theorem dX5_placeTaking_1 : decode cX5_placeTaking 1 = .ok (.istore 4, 2) := by decide +kernel
theorem dX5_placeTaking_3 : decode cX5_placeTaking 3 = .ok (.iload 4, 2) := by decide +kernel
theorem dX5_placeTaking_5 : decode cX5_placeTaking 5 = .ok (.aload_n 0, 1) := by decide +kernel
theorem dX5_placeTaking_6 : decode cX5_placeTaking 6 = .ok (.getfield 24, 3) := by decide +kernel
theorem dX5_placeTaking_9 : decode cX5_placeTaking 9 = .ok (.if_icmp .ge 54, 3) := by decide +kernel
theorem dX5_placeTaking_12 : decode cX5_placeTaking 12 = .ok (.iload_n 2, 1) := by decide +kernel
theorem dX5_placeTaking_13 : decode cX5_placeTaking 13 = .ok (.aload_n 0, 1) := by decide +kernel
theorem dX5_placeTaking_14 : decode cX5_placeTaking 14 = .ok (.getfield 9, 3) := by decide +kernel
theorem dX5_placeTaking_17 : decode cX5_placeTaking 17 = .ok (.iload 4, 2) := by decide +kernel
theorem dX5_placeTaking_19 : decode cX5_placeTaking 19 = .ok (.iaload, 1) := by decide +kernel
theorem dX5_placeTaking_20 : decode cX5_placeTaking 20 = .ok (.invokestatic 38, 3) := by decide +kernel
theorem dX5_placeTaking_23 : decode cX5_placeTaking 23 = .ok (.ifCond .eq 34, 3) := by decide +kernel
theorem dX5_placeTaking_26 : decode cX5_placeTaking 26 = .ok (.aload_n 1, 1) := by decide +kernel
theorem dX5_placeTaking_27 : decode cX5_placeTaking 27 = .ok (.aload_n 0, 1) := by decide +kernel
theorem dX5_placeTaking_28 : decode cX5_placeTaking 28 = .ok (.getfield 9, 3) := by decide +kernel
theorem dX5_placeTaking_31 : decode cX5_placeTaking 31 = .ok (.iload 4, 2) := by decide +kernel
theorem dX5_placeTaking_33 : decode cX5_placeTaking 33 = .ok (.iaload, 1) := by decide +kernel
theorem dX5_placeTaking_34 : decode cX5_placeTaking 34 = .ok (.invokevirtual 42, 3) := by decide +kernel
theorem dX5_placeTaking_37 : decode cX5_placeTaking 37 = .ok (.istore 5, 2) := by decide +kernel
theorem dX5_placeTaking_39 : decode cX5_placeTaking 39 = .ok (.iload 5, 2) := by decide +kernel
theorem dX5_placeTaking_41 : decode cX5_placeTaking 41 = .ok (.iconst (-1), 1) := by decide +kernel
theorem dX5_placeTaking_42 : decode cX5_placeTaking 42 = .ok (.if_icmp .eq 12, 3) := by decide +kernel
theorem dX5_placeTaking_45 : decode cX5_placeTaking 45 = .ok (.iload_n 3, 1) := by decide +kernel
theorem dX5_placeTaking_46 : decode cX5_placeTaking 46 = .ok (.iload 5, 2) := by decide +kernel
theorem dX5_placeTaking_48 : decode cX5_placeTaking 48 = .ok (.invokestatic 38, 3) := by decide +kernel
theorem dX5_placeTaking_51 : decode cX5_placeTaking 51 = .ok (.ifCond .eq 6, 3) := by decide +kernel
theorem dX5_placeTaking_54 : decode cX5_placeTaking 54 = .ok (.iload 4, 2) := by decide +kernel
theorem dX5_placeTaking_56 : decode cX5_placeTaking 56 = .ok (.ireturn, 1) := by decide +kernel
theorem dX5_placeTaking_57 : decode cX5_placeTaking 57 = .ok (.iinc 4 1, 3) := by decide +kernel
theorem dX5_placeTaking_60 : decode cX5_placeTaking 60 = .ok (.goto (-57), 3) := by decide +kernel
theorem dX5_placeTaking_63 : decode cX5_placeTaking 63 = .ok (.iconst (-1), 1) := by decide +kernel
theorem dX5_placeTaking_64 : decode cX5_placeTaking 64 = .ok (.ireturn, 1) := by decide +kernel
theorem dX5_takings_0 : decode cX5_takings 0 = .ok (.lconst 0, 1) := by decide +kernel
theorem dX5_takings_1 : decode cX5_takings 1 = .ok (.lstore_n 3, 1) := by decide +kernel
theorem dX5_takings_2 : decode cX5_takings 2 = .ok (.iconst 0, 1) := by decide +kernel
theorem dX5_takings_3 : decode cX5_takings 3 = .ok (.istore 5, 2) := by decide +kernel
theorem dX5_takings_5 : decode cX5_takings 5 = .ok (.iconst 0, 1) := by decide +kernel
theorem dX5_takings_6 : decode cX5_takings 6 = .ok (.istore 6, 2) := by decide +kernel
theorem dX5_takings_8 : decode cX5_takings 8 = .ok (.iload 6, 2) := by decide +kernel
theorem dX5_takings_10 : decode cX5_takings 10 = .ok (.aload_n 0, 1) := by decide +kernel
theorem dX5_takings_11 : decode cX5_takings 11 = .ok (.getfield 24, 3) := by decide +kernel
theorem dX5_takings_14 : decode cX5_takings 14 = .ok (.if_icmp .ge 83, 3) := by decide +kernel
theorem dX5_takings_17 : decode cX5_takings 17 = .ok (.aload_n 0, 1) := by decide +kernel
theorem dX5_takings_18 : decode cX5_takings 18 = .ok (.getfield 9, 3) := by decide +kernel
theorem dX5_takings_21 : decode cX5_takings 21 = .ok (.iload 6, 2) := by decide +kernel
theorem dX5_takings_23 : decode cX5_takings 23 = .ok (.iaload, 1) := by decide +kernel
theorem dX5_takings_24 : decode cX5_takings 24 = .ok (.istore 7, 2) := by decide +kernel
theorem dX5_takings_26 : decode cX5_takings 26 = .ok (.aload_n 1, 1) := by decide +kernel
theorem dX5_takings_27 : decode cX5_takings 27 = .ok (.iload 7, 2) := by decide +kernel
theorem dX5_takings_29 : decode cX5_takings 29 = .ok (.invokevirtual 42, 3) := by decide +kernel
theorem dX5_takings_32 : decode cX5_takings 32 = .ok (.istore 8, 2) := by decide +kernel
theorem dX5_takings_34 : decode cX5_takings 34 = .ok (.iload_n 2, 1) := by decide +kernel
theorem dX5_takings_35 : decode cX5_takings 35 = .ok (.iload 7, 2) := by decide +kernel
theorem dX5_takings_37 : decode cX5_takings 37 = .ok (.invokestatic 38, 3) := by decide +kernel
theorem dX5_takings_40 : decode cX5_takings 40 = .ok (.ifCond .eq 51, 3) := by decide +kernel
theorem dX5_takings_43 : decode cX5_takings 43 = .ok (.iload 8, 2) := by decide +kernel
theorem dX5_takings_45 : decode cX5_takings 45 = .ok (.iconst (-1), 1) := by decide +kernel
theorem dX5_takings_46 : decode cX5_takings 46 = .ok (.if_icmp .eq 16, 3) := by decide +kernel
theorem dX5_takings_49 : decode cX5_takings 49 = .ok (.iload 5, 2) := by decide +kernel
theorem dX5_takings_51 : decode cX5_takings 51 = .ok (.iload 8, 2) := by decide +kernel
theorem dX5_takings_53 : decode cX5_takings 53 = .ok (.invokestatic 38, 3) := by decide +kernel
theorem dX5_takings_56 : decode cX5_takings 56 = .ok (.ifCond .eq 6, 3) := by decide +kernel
theorem dX5_takings_59 : decode cX5_takings 59 = .ok (.goto 32, 3) := by decide +kernel
theorem dX5_takings_62 : decode cX5_takings 62 = .ok (.lload_n 3, 1) := by decide +kernel
theorem dX5_takings_63 : decode cX5_takings 63 = .ok (.ldc2_w 48, 3) := by decide +kernel
theorem dX5_takings_66 : decode cX5_takings 66 = .ok (.lmul, 1) := by decide +kernel
theorem dX5_takings_67 : decode cX5_takings 67 = .ok (.iload 7, 2) := by decide +kernel
theorem dX5_takings_69 : decode cX5_takings 69 = .ok (.i2l, 1) := by decide +kernel
theorem dX5_takings_70 : decode cX5_takings 70 = .ok (.ladd, 1) := by decide +kernel
theorem dX5_takings_71 : decode cX5_takings 71 = .ok (.lconst 1, 1) := by decide +kernel
theorem dX5_takings_72 : decode cX5_takings 72 = .ok (.ladd, 1) := by decide +kernel
theorem dX5_takings_73 : decode cX5_takings 73 = .ok (.lstore_n 3, 1) := by decide +kernel
theorem dX5_takings_74 : decode cX5_takings 74 = .ok (.iload 8, 2) := by decide +kernel
theorem dX5_takings_76 : decode cX5_takings 76 = .ok (.iconst (-1), 1) := by decide +kernel
theorem dX5_takings_77 : decode cX5_takings 77 = .ok (.if_icmp .ne 5, 3) := by decide +kernel
theorem dX5_takings_80 : decode cX5_takings 80 = .ok (.lload_n 3, 1) := by decide +kernel
theorem dX5_takings_81 : decode cX5_takings 81 = .ok (.lreturn, 1) := by decide +kernel
theorem dX5_takings_82 : decode cX5_takings 82 = .ok (.iload 5, 2) := by decide +kernel
theorem dX5_takings_84 : decode cX5_takings 84 = .ok (.iconst 1, 1) := by decide +kernel
theorem dX5_takings_85 : decode cX5_takings 85 = .ok (.iload 8, 2) := by decide +kernel
theorem dX5_takings_87 : decode cX5_takings 87 = .ok (.ishl, 1) := by decide +kernel
theorem dX5_takings_88 : decode cX5_takings 88 = .ok (.ior, 1) := by decide +kernel
theorem dX5_takings_89 : decode cX5_takings 89 = .ok (.istore 5, 2) := by decide +kernel
theorem dX5_takings_91 : decode cX5_takings 91 = .ok (.iinc 6 1, 3) := by decide +kernel
theorem dX5_takings_94 : decode cX5_takings 94 = .ok (.goto (-86), 3) := by decide +kernel
theorem dX5_takings_97 : decode cX5_takings 97 = .ok (.lload_n 3, 1) := by decide +kernel
theorem dX5_takings_98 : decode cX5_takings 98 = .ok (.lreturn, 1) := by decide +kernel
theorem dX6_init_0 : decode cX6_init 0 = .ok (.aload_n 0, 1) := by decide +kernel
theorem dX6_init_1 : decode cX6_init 1 = .ok (.invokespecial 3, 3) := by decide +kernel
theorem dX6_init_4 : decode cX6_init 4 = .ok (.aload_n 0, 1) := by decide +kernel
theorem dX6_init_5 : decode cX6_init 5 = .ok (.new 9, 3) := by decide +kernel
theorem dX6_init_8 : decode cX6_init 8 = .ok (.dup, 1) := by decide +kernel
theorem dX6_init_9 : decode cX6_init 9 = .ok (.invokespecial 11, 3) := by decide +kernel
theorem dX6_init_12 : decode cX6_init 12 = .ok (.putfield 12, 3) := by decide +kernel
theorem dX6_init_15 : decode cX6_init 15 = .ok (.aload_n 0, 1) := by decide +kernel
theorem dX6_init_16 : decode cX6_init 16 = .ok (.bipush 10, 2) := by decide +kernel
theorem dX6_init_18 : decode cX6_init 18 = .ok (.sipush 2048, 3) := by decide +kernel
theorem dX6_init_21 : decode cX6_init 21 = .ok (.multianewarray 18 2, 4) := by decide +kernel
theorem dX6_init_25 : decode cX6_init 25 = .ok (.putfield 20, 3) := by decide +kernel
theorem dX6_init_28 : decode cX6_init 28 = .ok (.aload_n 0, 1) := by decide +kernel
theorem dX6_init_29 : decode cX6_init 29 = .ok (.iconst (-1), 1) := by decide +kernel
theorem dX6_init_30 : decode cX6_init 30 = .ok (.putfield 23, 3) := by decide +kernel
theorem dX6_init_33 : decode cX6_init 33 = .ok (.aload_n 0, 1) := by decide +kernel
theorem dX6_init_34 : decode cX6_init 34 = .ok (.aload_n 1, 1) := by decide +kernel
theorem dX6_init_35 : decode cX6_init 35 = .ok (.putfield 27, 3) := by decide +kernel
theorem dX6_init_38 : decode cX6_init 38 = .ok (.return_, 1) := by decide +kernel
theorem dX6_readMatch_0 : decode cX6_readMatch 0 = .ok (.aload_n 0, 1) := by decide +kernel
theorem dX6_readMatch_1 : decode cX6_readMatch 1 = .ok (.aload_n 2, 1) := by decide +kernel
theorem dX6_readMatch_2 : decode cX6_readMatch 2 = .ok (.putfield 27, 3) := by decide +kernel
theorem dX6_readMatch_5 : decode cX6_readMatch 5 = .ok (.aload_n 0, 1) := by decide +kernel
theorem dX6_readMatch_6 : decode cX6_readMatch 6 = .ok (.getfield 27, 3) := by decide +kernel
theorem dX6_readMatch_9 : decode cX6_readMatch 9 = .ok (.invokevirtual 31, 3) := by decide +kernel
theorem dX6_readMatch_12 : decode cX6_readMatch 12 = .ok (.aload_n 0, 1) := by decide +kernel
theorem dX6_readMatch_13 : decode cX6_readMatch 13 = .ok (.aload_n 1, 1) := by decide +kernel
theorem dX6_readMatch_14 : decode cX6_readMatch 14 = .ok (.invokevirtual 36, 3) := by decide +kernel
theorem dX6_readMatch_17 : decode cX6_readMatch 17 = .ok (.iconst 0, 1) := by decide +kernel
theorem dX6_readMatch_18 : decode cX6_readMatch 18 = .ok (.istore_n 3, 1) := by decide +kernel
theorem dX6_readMatch_19 : decode cX6_readMatch 19 = .ok (.aload_n 0, 1) := by decide +kernel
theorem dX6_readMatch_20 : decode cX6_readMatch 20 = .ok (.getfield 12, 3) := by decide +kernel
theorem dX6_readMatch_23 : decode cX6_readMatch 23 = .ok (.getfield 40, 3) := by decide +kernel
theorem dX6_readMatch_26 : decode cX6_readMatch 26 = .ok (.ifCond .eq 140, 3) := by decide +kernel
theorem dX6_readMatch_29 : decode cX6_readMatch 29 = .ok (.iload_n 3, 1) := by decide +kernel
theorem dX6_readMatch_30 : decode cX6_readMatch 30 = .ok (.bipush 60, 2) := by decide +kernel
theorem dX6_readMatch_32 : decode cX6_readMatch 32 = .ok (.if_icmp .ge 134, 3) := by decide +kernel
theorem dX6_readMatch_35 : decode cX6_readMatch 35 = .ok (.aload_n 0, 1) := by decide +kernel
theorem dX6_readMatch_36 : decode cX6_readMatch 36 = .ok (.getfield 12, 3) := by decide +kernel
theorem dX6_readMatch_39 : decode cX6_readMatch 39 = .ok (.getfield 43, 3) := by decide +kernel
theorem dX6_readMatch_42 : decode cX6_readMatch 42 = .ok (.tableswitch 96 0 6 #[42, 51, 60, 69, 96, 78, 87], 42) := by decide +kernel
theorem dX6_readMatch_84 : decode cX6_readMatch 84 = .ok (.aload_n 0, 1) := by decide +kernel
theorem dX6_readMatch_85 : decode cX6_readMatch 85 = .ok (.invokevirtual 46, 3) := by decide +kernel
theorem dX6_readMatch_88 : decode cX6_readMatch 88 = .ok (.istore 4, 2) := by decide +kernel
theorem dX6_readMatch_90 : decode cX6_readMatch 90 = .ok (.goto 54, 3) := by decide +kernel
theorem dX6_readMatch_93 : decode cX6_readMatch 93 = .ok (.aload_n 0, 1) := by decide +kernel
theorem dX6_readMatch_94 : decode cX6_readMatch 94 = .ok (.invokevirtual 50, 3) := by decide +kernel
theorem dX6_readMatch_97 : decode cX6_readMatch 97 = .ok (.istore 4, 2) := by decide +kernel
theorem dX6_readMatch_99 : decode cX6_readMatch 99 = .ok (.goto 45, 3) := by decide +kernel
theorem dX6_readMatch_102 : decode cX6_readMatch 102 = .ok (.aload_n 0, 1) := by decide +kernel
theorem dX6_readMatch_103 : decode cX6_readMatch 103 = .ok (.invokevirtual 53, 3) := by decide +kernel
theorem dX6_readMatch_106 : decode cX6_readMatch 106 = .ok (.istore 4, 2) := by decide +kernel
theorem dX6_readMatch_108 : decode cX6_readMatch 108 = .ok (.goto 36, 3) := by decide +kernel
theorem dX6_readMatch_111 : decode cX6_readMatch 111 = .ok (.aload_n 0, 1) := by decide +kernel
theorem dX6_readMatch_112 : decode cX6_readMatch 112 = .ok (.invokevirtual 56, 3) := by decide +kernel
theorem dX6_readMatch_115 : decode cX6_readMatch 115 = .ok (.istore 4, 2) := by decide +kernel
theorem dX6_readMatch_117 : decode cX6_readMatch 117 = .ok (.goto 27, 3) := by decide +kernel
theorem dX6_readMatch_120 : decode cX6_readMatch 120 = .ok (.aload_n 0, 1) := by decide +kernel
theorem dX6_readMatch_121 : decode cX6_readMatch 121 = .ok (.invokevirtual 59, 3) := by decide +kernel
theorem dX6_readMatch_124 : decode cX6_readMatch 124 = .ok (.istore 4, 2) := by decide +kernel
theorem dX6_readMatch_126 : decode cX6_readMatch 126 = .ok (.goto 18, 3) := by decide +kernel
theorem dX6_readMatch_129 : decode cX6_readMatch 129 = .ok (.aload_n 0, 1) := by decide +kernel
theorem dX6_readMatch_130 : decode cX6_readMatch 130 = .ok (.invokevirtual 62, 3) := by decide +kernel
theorem dX6_readMatch_133 : decode cX6_readMatch 133 = .ok (.istore 4, 2) := by decide +kernel
theorem dX6_readMatch_135 : decode cX6_readMatch 135 = .ok (.goto 9, 3) := by decide +kernel
theorem dX6_readMatch_138 : decode cX6_readMatch 138 = .ok (.aload_n 0, 1) := by decide +kernel
theorem dX6_readMatch_139 : decode cX6_readMatch 139 = .ok (.invokevirtual 65, 3) := by decide +kernel
theorem dX6_readMatch_142 : decode cX6_readMatch 142 = .ok (.istore 4, 2) := by decide +kernel
theorem dX6_readMatch_144 : decode cX6_readMatch 144 = .ok (.iload 4, 2) := by decide +kernel
theorem dX6_readMatch_146 : decode cX6_readMatch 146 = .ok (.ifCond .eq 12, 3) := by decide +kernel
theorem dX6_readMatch_149 : decode cX6_readMatch 149 = .ok (.aload_n 0, 1) := by decide +kernel
theorem dX6_readMatch_150 : decode cX6_readMatch 150 = .ok (.bipush 59, 2) := by decide +kernel
theorem dX6_readMatch_152 : decode cX6_readMatch 152 = .ok (.invokevirtual 68, 3) := by decide +kernel
theorem dX6_readMatch_155 : decode cX6_readMatch 155 = .ok (.ifCond .ne 5, 3) := by decide +kernel
theorem dX6_readMatch_158 : decode cX6_readMatch 158 = .ok (.iconst (-1), 1) := by decide +kernel
theorem dX6_readMatch_159 : decode cX6_readMatch 159 = .ok (.ireturn, 1) := by decide +kernel
theorem dX6_readMatch_160 : decode cX6_readMatch 160 = .ok (.iinc 3 1, 3) := by decide +kernel
theorem dX6_readMatch_163 : decode cX6_readMatch 163 = .ok (.goto (-144), 3) := by decide +kernel
theorem dX6_readMatch_166 : decode cX6_readMatch 166 = .ok (.aload_n 0, 1) := by decide +kernel
theorem dX6_readMatch_167 : decode cX6_readMatch 167 = .ok (.getfield 12, 3) := by decide +kernel
theorem dX6_readMatch_170 : decode cX6_readMatch 170 = .ok (.getfield 40, 3) := by decide +kernel
theorem dX6_readMatch_173 : decode cX6_readMatch 173 = .ok (.ifCond .eq 19, 3) := by decide +kernel
theorem dX6_readMatch_176 : decode cX6_readMatch 176 = .ok (.aload_n 0, 1) := by decide +kernel
theorem dX6_readMatch_177 : decode cX6_readMatch 177 = .ok (.bipush 6, 2) := by decide +kernel
theorem dX6_readMatch_179 : decode cX6_readMatch 179 = .ok (.aload_n 0, 1) := by decide +kernel
theorem dX6_readMatch_180 : decode cX6_readMatch 180 = .ok (.getfield 12, 3) := by decide +kernel
theorem dX6_readMatch_183 : decode cX6_readMatch 183 = .ok (.getfield 72, 3) := by decide +kernel
theorem dX6_readMatch_186 : decode cX6_readMatch 186 = .ok (.invokevirtual 75, 3) := by decide +kernel
theorem dX6_readMatch_189 : decode cX6_readMatch 189 = .ok (.pop, 1) := by decide +kernel
theorem dX6_readMatch_190 : decode cX6_readMatch 190 = .ok (.iconst (-1), 1) := by decide +kernel
theorem dX6_readMatch_191 : decode cX6_readMatch 191 = .ok (.ireturn, 1) := by decide +kernel
theorem dX6_readMatch_192 : decode cX6_readMatch 192 = .ok (.aload_n 0, 1) := by decide +kernel
theorem dX6_readMatch_193 : decode cX6_readMatch 193 = .ok (.getfield 27, 3) := by decide +kernel
theorem dX6_readMatch_196 : decode cX6_readMatch 196 = .ok (.getfield 79, 3) := by decide +kernel
theorem dX6_readMatch_199 : decode cX6_readMatch 199 = .ok (.ifCond .ne 10, 3) := by decide +kernel
theorem dX6_readMatch_202 : decode cX6_readMatch 202 = .ok (.aload_n 0, 1) := by decide +kernel
theorem dX6_readMatch_203 : decode cX6_readMatch 203 = .ok (.invokevirtual 65, 3) := by decide +kernel
theorem dX6_readMatch_206 : decode cX6_readMatch 206 = .ok (.pop, 1) := by decide +kernel
theorem dX6_readMatch_207 : decode cX6_readMatch 207 = .ok (.iconst (-1), 1) := by decide +kernel
theorem dX6_readMatch_208 : decode cX6_readMatch 208 = .ok (.ireturn, 1) := by decide +kernel
theorem dX6_readMatch_209 : decode cX6_readMatch 209 = .ok (.iload_n 3, 1) := by decide +kernel
theorem dX6_readMatch_210 : decode cX6_readMatch 210 = .ok (.ireturn, 1) := by decide +kernel
theorem dX6_begin_0 : decode cX6_begin 0 = .ok (.aload_n 0, 1) := by decide +kernel
theorem dX6_begin_1 : decode cX6_begin 1 = .ok (.iconst 0, 1) := by decide +kernel
theorem dX6_begin_2 : decode cX6_begin 2 = .ok (.putfield 82, 3) := by decide +kernel
theorem dX6_begin_5 : decode cX6_begin 5 = .ok (.aload_n 0, 1) := by decide +kernel
theorem dX6_begin_6 : decode cX6_begin 6 = .ok (.iconst (-1), 1) := by decide +kernel
theorem dX6_begin_7 : decode cX6_begin 7 = .ok (.putfield 23, 3) := by decide +kernel
theorem dX6_begin_10 : decode cX6_begin 10 = .ok (.aload_n 0, 1) := by decide +kernel
theorem dX6_begin_11 : decode cX6_begin 11 = .ok (.getfield 12, 3) := by decide +kernel
theorem dX6_begin_14 : decode cX6_begin 14 = .ok (.aload_n 1, 1) := by decide +kernel
theorem dX6_begin_15 : decode cX6_begin 15 = .ok (.invokevirtual 85, 3) := by decide +kernel
theorem dX6_begin_18 : decode cX6_begin 18 = .ok (.return_, 1) := by decide +kernel
theorem dX6_fail_0 : decode cX6_fail 0 = .ok (.aload_n 0, 1) := by decide +kernel
theorem dX6_fail_1 : decode cX6_fail 1 = .ok (.iload_n 1, 1) := by decide +kernel
theorem dX6_fail_2 : decode cX6_fail 2 = .ok (.putfield 82, 3) := by decide +kernel
theorem dX6_fail_5 : decode cX6_fail 5 = .ok (.aload_n 0, 1) := by decide +kernel
theorem dX6_fail_6 : decode cX6_fail 6 = .ok (.iload_n 2, 1) := by decide +kernel
theorem dX6_fail_7 : decode cX6_fail 7 = .ok (.putfield 23, 3) := by decide +kernel
theorem dX6_fail_10 : decode cX6_fail 10 = .ok (.iconst 0, 1) := by decide +kernel
end
