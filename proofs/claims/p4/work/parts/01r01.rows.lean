theorem dX2_addProducts_15 : decode cX2_addProducts 15 = .ok (.aload_n 2, 1) := by decide +kernel
theorem dX2_addProducts_16 : decode cX2_addProducts 16 = .ok (.getfield 28, 3) := by decide +kernel
theorem dX2_addProducts_19 : decode cX2_addProducts 19 = .ok (.if_icmp .ge 41, 3) := by decide +kernel
theorem dX2_addProducts_22 : decode cX2_addProducts 22 = .ok (.aload_n 0, 1) := by decide +kernel
theorem dX2_addProducts_23 : decode cX2_addProducts 23 = .ok (.aload_n 1, 1) := by decide +kernel
theorem dX2_addProducts_24 : decode cX2_addProducts 24 = .ok (.getfield 15, 3) := by decide +kernel
theorem dX2_addProducts_27 : decode cX2_addProducts 27 = .ok (.iload_n 3, 1) := by decide +kernel
theorem dX2_addProducts_28 : decode cX2_addProducts 28 = .ok (.iaload, 1) := by decide +kernel
theorem dX2_addProducts_29 : decode cX2_addProducts 29 = .ok (.aload_n 2, 1) := by decide +kernel
theorem dX2_addProducts_30 : decode cX2_addProducts 30 = .ok (.getfield 15, 3) := by decide +kernel
theorem dX2_addProducts_33 : decode cX2_addProducts 33 = .ok (.iload 4, 2) := by decide +kernel
theorem dX2_addProducts_35 : decode cX2_addProducts 35 = .ok (.iaload, 1) := by decide +kernel
theorem dX2_addProducts_36 : decode cX2_addProducts 36 = .ok (.iand, 1) := by decide +kernel
theorem dX2_addProducts_37 : decode cX2_addProducts 37 = .ok (.aload_n 1, 1) := by decide +kernel
theorem dX2_addProducts_38 : decode cX2_addProducts 38 = .ok (.getfield 21, 3) := by decide +kernel
theorem dX2_addProducts_41 : decode cX2_addProducts 41 = .ok (.iload_n 3, 1) := by decide +kernel
theorem dX2_addProducts_42 : decode cX2_addProducts 42 = .ok (.iaload, 1) := by decide +kernel
theorem dX2_addProducts_43 : decode cX2_addProducts 43 = .ok (.aload_n 2, 1) := by decide +kernel
theorem dX2_addProducts_44 : decode cX2_addProducts 44 = .ok (.getfield 21, 3) := by decide +kernel
theorem dX2_addProducts_47 : decode cX2_addProducts 47 = .ok (.iload 4, 2) := by decide +kernel
theorem dX2_addProducts_49 : decode cX2_addProducts 49 = .ok (.iaload, 1) := by decide +kernel
theorem dX2_addProducts_50 : decode cX2_addProducts 50 = .ok (.imul, 1) := by decide +kernel
theorem dX2_addProducts_51 : decode cX2_addProducts 51 = .ok (.invokevirtual 44, 3) := by decide +kernel
theorem dX2_addProducts_54 : decode cX2_addProducts 54 = .ok (.iinc 4 1, 3) := by decide +kernel
theorem dX2_addProducts_57 : decode cX2_addProducts 57 = .ok (.goto (-44), 3) := by decide +kernel
theorem dX2_addProducts_60 : decode cX2_addProducts 60 = .ok (.iinc 3 1, 3) := by decide +kernel
theorem dX2_addProducts_63 : decode cX2_addProducts 63 = .ok (.goto (-61), 3) := by decide +kernel
theorem dX2_addProducts_66 : decode cX2_addProducts 66 = .ok (.return_, 1) := by decide +kernel
theorem dX2_copy_0 : decode cX2_copy 0 = .ok (.aload_n 0, 1) := by decide +kernel
theorem dX2_copy_1 : decode cX2_copy 1 = .ok (.aload_n 1, 1) := by decide +kernel
theorem dX2_copy_2 : decode cX2_copy 2 = .ok (.getfield 28, 3) := by decide +kernel
theorem dX2_copy_5 : decode cX2_copy 5 = .ok (.aload_n 0, 1) := by decide +kernel
theorem dX2_copy_6 : decode cX2_copy 6 = .ok (.getfield 15, 3) := by decide +kernel
theorem dX2_copy_9 : decode cX2_copy 9 = .ok (.arraylength, 1) := by decide +kernel
theorem dX2_copy_10 : decode cX2_copy 10 = .ok (.invokestatic 48, 3) := by decide +kernel
theorem dX2_copy_13 : decode cX2_copy 13 = .ok (.putfield 28, 3) := by decide +kernel
theorem dX2_copy_16 : decode cX2_copy 16 = .ok (.iconst 0, 1) := by decide +kernel
theorem dX2_copy_17 : decode cX2_copy 17 = .ok (.istore_n 2, 1) := by decide +kernel
theorem dX2_copy_18 : decode cX2_copy 18 = .ok (.iload_n 2, 1) := by decide +kernel
theorem dX2_copy_19 : decode cX2_copy 19 = .ok (.aload_n 0, 1) := by decide +kernel
theorem dX2_copy_20 : decode cX2_copy 20 = .ok (.getfield 28, 3) := by decide +kernel
theorem dX2_copy_23 : decode cX2_copy 23 = .ok (.if_icmp .ge 33, 3) := by decide +kernel
theorem dX2_copy_26 : decode cX2_copy 26 = .ok (.aload_n 0, 1) := by decide +kernel
theorem dX2_copy_27 : decode cX2_copy 27 = .ok (.getfield 15, 3) := by decide +kernel
theorem dX2_copy_30 : decode cX2_copy 30 = .ok (.iload_n 2, 1) := by decide +kernel
theorem dX2_copy_31 : decode cX2_copy 31 = .ok (.aload_n 1, 1) := by decide +kernel
theorem dX2_copy_32 : decode cX2_copy 32 = .ok (.getfield 15, 3) := by decide +kernel
theorem dX2_copy_35 : decode cX2_copy 35 = .ok (.iload_n 2, 1) := by decide +kernel
theorem dX2_copy_36 : decode cX2_copy 36 = .ok (.iaload, 1) := by decide +kernel
theorem dX2_copy_37 : decode cX2_copy 37 = .ok (.iastore, 1) := by decide +kernel
theorem dX2_copy_38 : decode cX2_copy 38 = .ok (.aload_n 0, 1) := by decide +kernel
theorem dX2_copy_39 : decode cX2_copy 39 = .ok (.getfield 21, 3) := by decide +kernel
theorem dX2_copy_42 : decode cX2_copy 42 = .ok (.iload_n 2, 1) := by decide +kernel
theorem dX2_copy_43 : decode cX2_copy 43 = .ok (.aload_n 1, 1) := by decide +kernel
theorem dX2_copy_44 : decode cX2_copy 44 = .ok (.getfield 21, 3) := by decide +kernel
theorem dX2_copy_47 : decode cX2_copy 47 = .ok (.iload_n 2, 1) := by decide +kernel
theorem dX2_copy_48 : decode cX2_copy 48 = .ok (.iaload, 1) := by decide +kernel
theorem dX2_copy_49 : decode cX2_copy 49 = .ok (.iastore, 1) := by decide +kernel
theorem dX2_copy_50 : decode cX2_copy 50 = .ok (.iinc 2 1, 3) := by decide +kernel
theorem dX2_copy_53 : decode cX2_copy 53 = .ok (.goto (-35), 3) := by decide +kernel
theorem dX2_copy_56 : decode cX2_copy 56 = .ok (.return_, 1) := by decide +kernel
theorem dX3_init_0 : decode cX3_init 0 = .ok (.aload_n 0, 1) := by decide +kernel
theorem dX3_init_1 : decode cX3_init 1 = .ok (.invokespecial 3, 3) := by decide +kernel
theorem dX3_init_4 : decode cX3_init 4 = .ok (.aload_n 0, 1) := by decide +kernel
theorem dX3_init_5 : decode cX3_init 5 = .ok (.iconst 4, 1) := by decide +kernel
theorem dX3_init_6 : decode cX3_init 6 = .ok (.newarray .int, 2) := by decide +kernel
theorem dX3_init_8 : decode cX3_init 8 = .ok (.putfield 9, 3) := by decide +kernel
theorem dX3_init_11 : decode cX3_init 11 = .ok (.aload_n 0, 1) := by decide +kernel
theorem dX3_init_12 : decode cX3_init 12 = .ok (.iconst 4, 1) := by decide +kernel
theorem dX3_init_13 : decode cX3_init 13 = .ok (.newarray .int, 2) := by decide +kernel
theorem dX3_init_15 : decode cX3_init 15 = .ok (.putfield 15, 3) := by decide +kernel
theorem dX3_init_18 : decode cX3_init 18 = .ok (.aload_n 0, 1) := by decide +kernel
theorem dX3_init_19 : decode cX3_init 19 = .ok (.iconst 4, 1) := by decide +kernel
theorem dX3_init_20 : decode cX3_init 20 = .ok (.newarray .int, 2) := by decide +kernel
theorem dX3_init_22 : decode cX3_init 22 = .ok (.putfield 18, 3) := by decide +kernel
theorem dX3_init_25 : decode cX3_init 25 = .ok (.aload_n 0, 1) := by decide +kernel
theorem dX3_init_26 : decode cX3_init 26 = .ok (.iconst 4, 1) := by decide +kernel
theorem dX3_init_27 : decode cX3_init 27 = .ok (.newarray .int, 2) := by decide +kernel
theorem dX3_init_29 : decode cX3_init 29 = .ok (.putfield 21, 3) := by decide +kernel
theorem dX3_init_32 : decode cX3_init 32 = .ok (.aload_n 0, 1) := by decide +kernel
theorem dX3_init_33 : decode cX3_init 33 = .ok (.bipush 24, 2) := by decide +kernel
theorem dX3_init_35 : decode cX3_init 35 = .ok (.newarray .int, 2) := by decide +kernel
theorem dX3_init_37 : decode cX3_init 37 = .ok (.putfield 24, 3) := by decide +kernel
theorem dX3_init_40 : decode cX3_init 40 = .ok (.aload_n 0, 1) := by decide +kernel
theorem dX3_init_41 : decode cX3_init 41 = .ok (.bipush 24, 2) := by decide +kernel
theorem dX3_init_43 : decode cX3_init 43 = .ok (.newarray .int, 2) := by decide +kernel
theorem dX3_init_45 : decode cX3_init 45 = .ok (.putfield 27, 3) := by decide +kernel
theorem dX3_init_48 : decode cX3_init 48 = .ok (.aload_n 0, 1) := by decide +kernel
theorem dX3_init_49 : decode cX3_init 49 = .ok (.bipush 24, 2) := by decide +kernel
theorem dX3_init_51 : decode cX3_init 51 = .ok (.newarray .int, 2) := by decide +kernel
theorem dX3_init_53 : decode cX3_init 53 = .ok (.putfield 30, 3) := by decide +kernel
theorem dX3_init_56 : decode cX3_init 56 = .ok (.aload_n 0, 1) := by decide +kernel
theorem dX3_init_57 : decode cX3_init 57 = .ok (.bipush 24, 2) := by decide +kernel
theorem dX3_init_59 : decode cX3_init 59 = .ok (.newarray .int, 2) := by decide +kernel
theorem dX3_init_61 : decode cX3_init 61 = .ok (.putfield 33, 3) := by decide +kernel
theorem dX3_init_64 : decode cX3_init 64 = .ok (.aload_n 0, 1) := by decide +kernel
theorem dX3_init_65 : decode cX3_init 65 = .ok (.bipush 24, 2) := by decide +kernel
theorem dX3_init_67 : decode cX3_init 67 = .ok (.newarray .int, 2) := by decide +kernel
theorem dX3_init_69 : decode cX3_init 69 = .ok (.putfield 36, 3) := by decide +kernel
theorem dX3_init_72 : decode cX3_init 72 = .ok (.return_, 1) := by decide +kernel
theorem dX3_clear_0 : decode cX3_clear 0 = .ok (.aload_n 0, 1) := by decide +kernel
theorem dX3_clear_1 : decode cX3_clear 1 = .ok (.iconst 0, 1) := by decide +kernel
theorem dX3_clear_2 : decode cX3_clear 2 = .ok (.putfield 39, 3) := by decide +kernel
theorem dX3_clear_5 : decode cX3_clear 5 = .ok (.aload_n 0, 1) := by decide +kernel
theorem dX3_clear_6 : decode cX3_clear 6 = .ok (.iconst 0, 1) := by decide +kernel
theorem dX3_clear_7 : decode cX3_clear 7 = .ok (.putfield 43, 3) := by decide +kernel
theorem dX3_clear_10 : decode cX3_clear 10 = .ok (.return_, 1) := by decide +kernel
theorem dX3_isKind_0 : decode cX3_isKind 0 = .ok (.iload_n 1, 1) := by decide +kernel
theorem dX3_isKind_1 : decode cX3_isKind 1 = .ok (.ifCond .lt 15, 3) := by decide +kernel
theorem dX3_isKind_4 : decode cX3_isKind 4 = .ok (.iload_n 1, 1) := by decide +kernel
theorem dX3_isKind_5 : decode cX3_isKind 5 = .ok (.aload_n 0, 1) := by decide +kernel
theorem dX3_isKind_6 : decode cX3_isKind 6 = .ok (.getfield 39, 3) := by decide +kernel
theorem dX3_isKind_9 : decode cX3_isKind 9 = .ok (.if_icmp .ge 7, 3) := by decide +kernel
theorem dX3_isKind_12 : decode cX3_isKind 12 = .ok (.iconst 1, 1) := by decide +kernel
theorem dX3_isKind_13 : decode cX3_isKind 13 = .ok (.goto 4, 3) := by decide +kernel
theorem dX3_isKind_16 : decode cX3_isKind 16 = .ok (.iconst 0, 1) := by decide +kernel
theorem dX3_isKind_17 : decode cX3_isKind 17 = .ok (.ireturn, 1) := by decide +kernel
theorem dX3_isCon_0 : decode cX3_isCon 0 = .ok (.iload_n 1, 1) := by decide +kernel
theorem dX3_isCon_1 : decode cX3_isCon 1 = .ok (.ifCond .lt 15, 3) := by decide +kernel
theorem dX3_isCon_4 : decode cX3_isCon 4 = .ok (.iload_n 1, 1) := by decide +kernel
theorem dX3_isCon_5 : decode cX3_isCon 5 = .ok (.aload_n 0, 1) := by decide +kernel
theorem dX3_isCon_6 : decode cX3_isCon 6 = .ok (.getfield 43, 3) := by decide +kernel
theorem dX3_isCon_9 : decode cX3_isCon 9 = .ok (.if_icmp .ge 7, 3) := by decide +kernel
theorem dX3_isCon_12 : decode cX3_isCon 12 = .ok (.iconst 1, 1) := by decide +kernel
theorem dX3_isCon_13 : decode cX3_isCon 13 = .ok (.goto 4, 3) := by decide +kernel
theorem dX3_isCon_16 : decode cX3_isCon 16 = .ok (.iconst 0, 1) := by decide +kernel
theorem dX3_isCon_17 : decode cX3_isCon 17 = .ok (.ireturn, 1) := by decide +kernel
theorem dX3_sizeOf_0 : decode cX3_sizeOf 0 = .ok (.iload_n 1, 1) := by decide +kernel
theorem dX3_sizeOf_1 : decode cX3_sizeOf 1 = .ok (.iconst (-1), 1) := by decide +kernel
theorem dX3_sizeOf_2 : decode cX3_sizeOf 2 = .ok (.if_icmp .ne 6, 3) := by decide +kernel
theorem dX3_sizeOf_5 : decode cX3_sizeOf 5 = .ok (.bipush 20, 2) := by decide +kernel
theorem dX3_sizeOf_7 : decode cX3_sizeOf 7 = .ok (.ireturn, 1) := by decide +kernel
theorem dX3_sizeOf_8 : decode cX3_sizeOf 8 = .ok (.iload_n 1, 1) := by decide +kernel
theorem dX3_sizeOf_9 : decode cX3_sizeOf 9 = .ok (.ifCond .lt 20, 3) := by decide +kernel
theorem dX3_sizeOf_12 : decode cX3_sizeOf 12 = .ok (.iload_n 1, 1) := by decide +kernel
theorem dX3_sizeOf_13 : decode cX3_sizeOf 13 = .ok (.aload_n 0, 1) := by decide +kernel
theorem dX3_sizeOf_14 : decode cX3_sizeOf 14 = .ok (.getfield 39, 3) := by decide +kernel
theorem dX3_sizeOf_17 : decode cX3_sizeOf 17 = .ok (.if_icmp .ge 12, 3) := by decide +kernel
theorem dX3_sizeOf_20 : decode cX3_sizeOf 20 = .ok (.aload_n 0, 1) := by decide +kernel
theorem dX3_sizeOf_21 : decode cX3_sizeOf 21 = .ok (.getfield 21, 3) := by decide +kernel
theorem dX3_sizeOf_24 : decode cX3_sizeOf 24 = .ok (.iload_n 1, 1) := by decide +kernel
theorem dX3_sizeOf_25 : decode cX3_sizeOf 25 = .ok (.iaload, 1) := by decide +kernel
theorem dX3_sizeOf_26 : decode cX3_sizeOf 26 = .ok (.goto 4, 3) := by decide +kernel
theorem dX3_sizeOf_29 : decode cX3_sizeOf 29 = .ok (.iconst 0, 1) := by decide +kernel
theorem dX3_sizeOf_30 : decode cX3_sizeOf 30 = .ok (.ireturn, 1) := by decide +kernel
theorem dX3_consOf_0 : decode cX3_consOf 0 = .ok (.aload_n 0, 1) := by decide +kernel
theorem dX3_consOf_1 : decode cX3_consOf 1 = .ok (.iload_n 1, 1) := by decide +kernel
theorem dX3_consOf_2 : decode cX3_consOf 2 = .ok (.invokevirtual 46, 3) := by decide +kernel
theorem dX3_consOf_5 : decode cX3_consOf 5 = .ok (.ifCond .eq 12, 3) := by decide +kernel
theorem dX3_consOf_8 : decode cX3_consOf 8 = .ok (.aload_n 0, 1) := by decide +kernel
theorem dX3_consOf_9 : decode cX3_consOf 9 = .ok (.getfield 18, 3) := by decide +kernel
theorem dX3_consOf_12 : decode cX3_consOf 12 = .ok (.iload_n 1, 1) := by decide +kernel
theorem dX3_consOf_13 : decode cX3_consOf 13 = .ok (.iaload, 1) := by decide +kernel
theorem dX3_consOf_14 : decode cX3_consOf 14 = .ok (.goto 4, 3) := by decide +kernel
theorem dX3_consOf_17 : decode cX3_consOf 17 = .ok (.iconst 0, 1) := by decide +kernel
theorem dX3_consOf_18 : decode cX3_consOf 18 = .ok (.ireturn, 1) := by decide +kernel
theorem dX3_kindNamed_0 : decode cX3_kindNamed 0 = .ok (.iconst 0, 1) := by decide +kernel
theorem dX3_kindNamed_1 : decode cX3_kindNamed 1 = .ok (.istore_n 2, 1) := by decide +kernel
theorem dX3_kindNamed_2 : decode cX3_kindNamed 2 = .ok (.iload_n 2, 1) := by decide +kernel
theorem dX3_kindNamed_3 : decode cX3_kindNamed 3 = .ok (.aload_n 0, 1) := by decide +kernel
theorem dX3_kindNamed_4 : decode cX3_kindNamed 4 = .ok (.getfield 39, 3) := by decide +kernel
theorem dX3_kindNamed_7 : decode cX3_kindNamed 7 = .ok (.if_icmp .ge 21, 3) := by decide +kernel
theorem dX3_kindNamed_10 : decode cX3_kindNamed 10 = .ok (.aload_n 0, 1) := by decide +kernel
theorem dX3_kindNamed_11 : decode cX3_kindNamed 11 = .ok (.getfield 9, 3) := by decide +kernel
theorem dX3_kindNamed_14 : decode cX3_kindNamed 14 = .ok (.iload_n 2, 1) := by decide +kernel
theorem dX3_kindNamed_15 : decode cX3_kindNamed 15 = .ok (.iaload, 1) := by decide +kernel
theorem dX3_kindNamed_16 : decode cX3_kindNamed 16 = .ok (.iload_n 1, 1) := by decide +kernel
theorem dX3_kindNamed_17 : decode cX3_kindNamed 17 = .ok (.if_icmp .ne 5, 3) := by decide +kernel
theorem dX3_kindNamed_20 : decode cX3_kindNamed 20 = .ok (.iload_n 2, 1) := by decide +kernel
theorem dX3_kindNamed_21 : decode cX3_kindNamed 21 = .ok (.ireturn, 1) := by decide +kernel
theorem dX3_kindNamed_22 : decode cX3_kindNamed 22 = .ok (.iinc 2 1, 3) := by decide +kernel
theorem dX3_kindNamed_25 : decode cX3_kindNamed 25 = .ok (.goto (-23), 3) := by decide +kernel
theorem dX3_kindNamed_28 : decode cX3_kindNamed 28 = .ok (.iconst (-1), 1) := by decide +kernel
theorem dX3_kindNamed_29 : decode cX3_kindNamed 29 = .ok (.ireturn, 1) := by decide +kernel
theorem dX3_conNamed_0 : decode cX3_conNamed 0 = .ok (.iconst 0, 1) := by decide +kernel
theorem dX3_conNamed_1 : decode cX3_conNamed 1 = .ok (.istore_n 2, 1) := by decide +kernel
theorem dX3_conNamed_2 : decode cX3_conNamed 2 = .ok (.iload_n 2, 1) := by decide +kernel
theorem dX3_conNamed_3 : decode cX3_conNamed 3 = .ok (.aload_n 0, 1) := by decide +kernel
theorem dX3_conNamed_4 : decode cX3_conNamed 4 = .ok (.getfield 43, 3) := by decide +kernel
theorem dX3_conNamed_7 : decode cX3_conNamed 7 = .ok (.if_icmp .ge 21, 3) := by decide +kernel
theorem dX3_conNamed_10 : decode cX3_conNamed 10 = .ok (.aload_n 0, 1) := by decide +kernel
theorem dX3_conNamed_11 : decode cX3_conNamed 11 = .ok (.getfield 24, 3) := by decide +kernel
theorem dX3_conNamed_14 : decode cX3_conNamed 14 = .ok (.iload_n 2, 1) := by decide +kernel
theorem dX3_conNamed_15 : decode cX3_conNamed 15 = .ok (.iaload, 1) := by decide +kernel
theorem dX3_conNamed_16 : decode cX3_conNamed 16 = .ok (.iload_n 1, 1) := by decide +kernel
theorem dX3_conNamed_17 : decode cX3_conNamed 17 = .ok (.if_icmp .ne 5, 3) := by decide +kernel
theorem dX3_conNamed_20 : decode cX3_conNamed 20 = .ok (.iload_n 2, 1) := by decide +kernel
theorem dX3_conNamed_21 : decode cX3_conNamed 21 = .ok (.ireturn, 1) := by decide +kernel
theorem dX3_conNamed_22 : decode cX3_conNamed 22 = .ok (.iinc 2 1, 3) := by decide +kernel
theorem dX3_conNamed_25 : decode cX3_conNamed 25 = .ok (.goto (-23), 3) := by decide +kernel
theorem dX3_conNamed_28 : decode cX3_conNamed 28 = .ok (.iconst (-1), 1) := by decide +kernel
theorem dX3_conNamed_29 : decode cX3_conNamed 29 = .ok (.ireturn, 1) := by decide +kernel
theorem dX3_conNamedOf_0 : decode cX3_conNamedOf 0 = .ok (.aload_n 0, 1) := by decide +kernel
theorem dX3_conNamedOf_1 : decode cX3_conNamedOf 1 = .ok (.iload_n 2, 1) := by decide +kernel
theorem dX3_conNamedOf_2 : decode cX3_conNamedOf 2 = .ok (.invokevirtual 50, 3) := by decide +kernel
theorem dX3_conNamedOf_5 : decode cX3_conNamedOf 5 = .ok (.istore_n 3, 1) := by decide +kernel
theorem dX3_conNamedOf_6 : decode cX3_conNamedOf 6 = .ok (.iload_n 3, 1) := by decide +kernel
theorem dX3_conNamedOf_7 : decode cX3_conNamedOf 7 = .ok (.iconst (-1), 1) := by decide +kernel
theorem dX3_conNamedOf_8 : decode cX3_conNamedOf 8 = .ok (.if_icmp .eq 11, 3) := by decide +kernel
theorem dX3_conNamedOf_11 : decode cX3_conNamedOf 11 = .ok (.aload_n 0, 1) := by decide +kernel
theorem dX3_conNamedOf_12 : decode cX3_conNamedOf 12 = .ok (.iload_n 1, 1) := by decide +kernel
theorem dX3_conNamedOf_13 : decode cX3_conNamedOf 13 = .ok (.invokevirtual 46, 3) := by decide +kernel
theorem dX3_conNamedOf_16 : decode cX3_conNamedOf 16 = .ok (.ifCond .ne 5, 3) := by decide +kernel
theorem dX3_conNamedOf_19 : decode cX3_conNamedOf 19 = .ok (.iconst (-1), 1) := by decide +kernel
theorem dX3_conNamedOf_20 : decode cX3_conNamedOf 20 = .ok (.ireturn, 1) := by decide +kernel
theorem dX3_conNamedOf_21 : decode cX3_conNamedOf 21 = .ok (.aload_n 0, 1) := by decide +kernel
theorem dX3_conNamedOf_22 : decode cX3_conNamedOf 22 = .ok (.getfield 15, 3) := by decide +kernel
theorem dX3_conNamedOf_25 : decode cX3_conNamedOf 25 = .ok (.iload_n 1, 1) := by decide +kernel
theorem dX3_conNamedOf_26 : decode cX3_conNamedOf 26 = .ok (.iaload, 1) := by decide +kernel
theorem dX3_conNamedOf_27 : decode cX3_conNamedOf 27 = .ok (.istore 4, 2) := by decide +kernel
theorem dX3_conNamedOf_29 : decode cX3_conNamedOf 29 = .ok (.iload_n 3, 1) := by decide +kernel
theorem dX3_conNamedOf_30 : decode cX3_conNamedOf 30 = .ok (.iload 4, 2) := by decide +kernel
theorem dX3_conNamedOf_32 : decode cX3_conNamedOf 32 = .ok (.if_icmp .lt 20, 3) := by decide +kernel
theorem dX3_conNamedOf_35 : decode cX3_conNamedOf 35 = .ok (.iload_n 3, 1) := by decide +kernel
theorem dX3_conNamedOf_36 : decode cX3_conNamedOf 36 = .ok (.iload 4, 2) := by decide +kernel
theorem dX3_conNamedOf_38 : decode cX3_conNamedOf 38 = .ok (.aload_n 0, 1) := by decide +kernel
theorem dX3_conNamedOf_39 : decode cX3_conNamedOf 39 = .ok (.getfield 18, 3) := by decide +kernel
theorem dX3_conNamedOf_42 : decode cX3_conNamedOf 42 = .ok (.iload_n 1, 1) := by decide +kernel
theorem dX3_conNamedOf_43 : decode cX3_conNamedOf 43 = .ok (.iaload, 1) := by decide +kernel
theorem dX3_conNamedOf_44 : decode cX3_conNamedOf 44 = .ok (.iadd, 1) := by decide +kernel
theorem dX3_conNamedOf_45 : decode cX3_conNamedOf 45 = .ok (.if_icmp .ge 7, 3) := by decide +kernel
theorem dX3_conNamedOf_48 : decode cX3_conNamedOf 48 = .ok (.iload_n 3, 1) := by decide +kernel
theorem dX3_conNamedOf_49 : decode cX3_conNamedOf 49 = .ok (.goto 4, 3) := by decide +kernel
theorem dX3_conNamedOf_52 : decode cX3_conNamedOf 52 = .ok (.iconst (-1), 1) := by decide +kernel
theorem dX3_conNamedOf_53 : decode cX3_conNamedOf 53 = .ok (.ireturn, 1) := by decide +kernel
theorem dX3_conOf_0 : decode cX3_conOf 0 = .ok (.aload_n 0, 1) := by decide +kernel
theorem dX3_conOf_1 : decode cX3_conOf 1 = .ok (.iload_n 1, 1) := by decide +kernel
theorem dX3_conOf_2 : decode cX3_conOf 2 = .ok (.invokevirtual 46, 3) := by decide +kernel
theorem dX3_conOf_5 : decode cX3_conOf 5 = .ok (.ifCond .ne 5, 3) := by decide +kernel
theorem dX3_conOf_8 : decode cX3_conOf 8 = .ok (.iconst (-1), 1) := by decide +kernel
theorem dX3_conOf_9 : decode cX3_conOf 9 = .ok (.ireturn, 1) := by decide +kernel
theorem dX3_conOf_10 : decode cX3_conOf 10 = .ok (.iconst (-1), 1) := by decide +kernel
theorem dX3_conOf_11 : decode cX3_conOf 11 = .ok (.istore_n 3, 1) := by decide +kernel
theorem dX3_conOf_12 : decode cX3_conOf 12 = .ok (.iconst 0, 1) := by decide +kernel
theorem dX3_conOf_13 : decode cX3_conOf 13 = .ok (.istore 4, 2) := by decide +kernel
theorem dX3_conOf_15 : decode cX3_conOf 15 = .ok (.iload 4, 2) := by decide +kernel
theorem dX3_conOf_17 : decode cX3_conOf 17 = .ok (.aload_n 0, 1) := by decide +kernel
theorem dX3_conOf_18 : decode cX3_conOf 18 = .ok (.getfield 18, 3) := by decide +kernel
theorem dX3_conOf_21 : decode cX3_conOf 21 = .ok (.iload_n 1, 1) := by decide +kernel
theorem dX3_conOf_22 : decode cX3_conOf 22 = .ok (.iaload, 1) := by decide +kernel
theorem dX3_conOf_23 : decode cX3_conOf 23 = .ok (.if_icmp .ge 43, 3) := by decide +kernel
theorem dX3_conOf_26 : decode cX3_conOf 26 = .ok (.aload_n 0, 1) := by decide +kernel
theorem dX3_conOf_27 : decode cX3_conOf 27 = .ok (.getfield 15, 3) := by decide +kernel
theorem dX3_conOf_30 : decode cX3_conOf 30 = .ok (.iload_n 1, 1) := by decide +kernel
theorem dX3_conOf_31 : decode cX3_conOf 31 = .ok (.iaload, 1) := by decide +kernel
theorem dX3_conOf_32 : decode cX3_conOf 32 = .ok (.iload 4, 2) := by decide +kernel
theorem dX3_conOf_34 : decode cX3_conOf 34 = .ok (.iadd, 1) := by decide +kernel
theorem dX3_conOf_35 : decode cX3_conOf 35 = .ok (.istore 5, 2) := by decide +kernel
theorem dX3_conOf_37 : decode cX3_conOf 37 = .ok (.aload_n 0, 1) := by decide +kernel
theorem dX3_conOf_38 : decode cX3_conOf 38 = .ok (.iload 5, 2) := by decide +kernel
theorem dX3_conOf_40 : decode cX3_conOf 40 = .ok (.invokevirtual 54, 3) := by decide +kernel
theorem dX3_conOf_43 : decode cX3_conOf 43 = .ok (.ifCond .eq 17, 3) := by decide +kernel
theorem dX3_conOf_46 : decode cX3_conOf 46 = .ok (.aload_n 0, 1) := by decide +kernel
theorem dX3_conOf_47 : decode cX3_conOf 47 = .ok (.getfield 27, 3) := by decide +kernel
theorem dX3_conOf_50 : decode cX3_conOf 50 = .ok (.iload 5, 2) := by decide +kernel
theorem dX3_conOf_52 : decode cX3_conOf 52 = .ok (.iaload, 1) := by decide +kernel
theorem dX3_conOf_53 : decode cX3_conOf 53 = .ok (.iload_n 2, 1) := by decide +kernel
theorem dX3_conOf_54 : decode cX3_conOf 54 = .ok (.if_icmp .gt 6, 3) := by decide +kernel
theorem dX3_conOf_57 : decode cX3_conOf 57 = .ok (.iload 5, 2) := by decide +kernel
theorem dX3_conOf_59 : decode cX3_conOf 59 = .ok (.istore_n 3, 1) := by decide +kernel
theorem dX3_conOf_60 : decode cX3_conOf 60 = .ok (.iinc 4 1, 3) := by decide +kernel
theorem dX3_conOf_63 : decode cX3_conOf 63 = .ok (.goto (-48), 3) := by decide +kernel
theorem dX3_conOf_66 : decode cX3_conOf 66 = .ok (.iload_n 3, 1) := by decide +kernel
theorem dX3_conOf_67 : decode cX3_conOf 67 = .ok (.ireturn, 1) := by decide +kernel
theorem dX3_secondSize_0 : decode cX3_secondSize 0 = .ok (.aload_n 0, 1) := by decide +kernel
theorem dX3_secondSize_1 : decode cX3_secondSize 1 = .ok (.iload_n 1, 1) := by decide +kernel
theorem dX3_secondSize_2 : decode cX3_secondSize 2 = .ok (.invokevirtual 54, 3) := by decide +kernel
theorem dX3_secondSize_5 : decode cX3_secondSize 5 = .ok (.ifCond .eq 26, 3) := by decide +kernel
theorem dX3_secondSize_8 : decode cX3_secondSize 8 = .ok (.aload_n 0, 1) := by decide +kernel
theorem dX3_secondSize_9 : decode cX3_secondSize 9 = .ok (.getfield 30, 3) := by decide +kernel
theorem dX3_secondSize_12 : decode cX3_secondSize 12 = .ok (.iload_n 1, 1) := by decide +kernel
theorem dX3_secondSize_13 : decode cX3_secondSize 13 = .ok (.iaload, 1) := by decide +kernel
theorem dX3_secondSize_14 : decode cX3_secondSize 14 = .ok (.iconst 2, 1) := by decide +kernel
theorem dX3_secondSize_15 : decode cX3_secondSize 15 = .ok (.if_icmp .ne 16, 3) := by decide +kernel
theorem dX3_secondSize_18 : decode cX3_secondSize 18 = .ok (.aload_n 0, 1) := by decide +kernel
theorem dX3_secondSize_19 : decode cX3_secondSize 19 = .ok (.aload_n 0, 1) := by decide +kernel
theorem dX3_secondSize_20 : decode cX3_secondSize 20 = .ok (.getfield 36, 3) := by decide +kernel
theorem dX3_secondSize_23 : decode cX3_secondSize 23 = .ok (.iload_n 1, 1) := by decide +kernel
theorem dX3_secondSize_24 : decode cX3_secondSize 24 = .ok (.iaload, 1) := by decide +kernel
theorem dX3_secondSize_25 : decode cX3_secondSize 25 = .ok (.invokevirtual 57, 3) := by decide +kernel
theorem dX3_secondSize_28 : decode cX3_secondSize 28 = .ok (.goto 4, 3) := by decide +kernel
theorem dX3_secondSize_31 : decode cX3_secondSize 31 = .ok (.iconst 1, 1) := by decide +kernel
theorem dX3_secondSize_32 : decode cX3_secondSize 32 = .ok (.ireturn, 1) := by decide +kernel
theorem dX3_addKind_0 : decode cX3_addKind 0 = .ok (.aload_n 0, 1) := by decide +kernel
theorem dX3_addKind_1 : decode cX3_addKind 1 = .ok (.getfield 39, 3) := by decide +kernel
theorem dX3_addKind_4 : decode cX3_addKind 4 = .ok (.iconst 4, 1) := by decide +kernel
theorem dX3_addKind_5 : decode cX3_addKind 5 = .ok (.if_icmp .ge 56, 3) := by decide +kernel
theorem dX3_addKind_8 : decode cX3_addKind 8 = .ok (.aload_n 0, 1) := by decide +kernel
theorem dX3_addKind_9 : decode cX3_addKind 9 = .ok (.getfield 9, 3) := by decide +kernel
theorem dX3_addKind_12 : decode cX3_addKind 12 = .ok (.aload_n 0, 1) := by decide +kernel
theorem dX3_addKind_13 : decode cX3_addKind 13 = .ok (.getfield 39, 3) := by decide +kernel
theorem dX3_addKind_16 : decode cX3_addKind 16 = .ok (.iload_n 1, 1) := by decide +kernel
theorem dX3_addKind_17 : decode cX3_addKind 17 = .ok (.iastore, 1) := by decide +kernel
theorem dX3_addKind_18 : decode cX3_addKind 18 = .ok (.aload_n 0, 1) := by decide +kernel
theorem dX3_addKind_19 : decode cX3_addKind 19 = .ok (.getfield 15, 3) := by decide +kernel
theorem dX3_addKind_22 : decode cX3_addKind 22 = .ok (.aload_n 0, 1) := by decide +kernel
theorem dX3_addKind_23 : decode cX3_addKind 23 = .ok (.getfield 39, 3) := by decide +kernel
theorem dX3_addKind_26 : decode cX3_addKind 26 = .ok (.aload_n 0, 1) := by decide +kernel
theorem dX3_addKind_27 : decode cX3_addKind 27 = .ok (.getfield 43, 3) := by decide +kernel
theorem dX3_addKind_30 : decode cX3_addKind 30 = .ok (.iastore, 1) := by decide +kernel
theorem dX3_addKind_31 : decode cX3_addKind 31 = .ok (.aload_n 0, 1) := by decide +kernel
theorem dX3_addKind_32 : decode cX3_addKind 32 = .ok (.getfield 18, 3) := by decide +kernel
theorem dX3_addKind_35 : decode cX3_addKind 35 = .ok (.aload_n 0, 1) := by decide +kernel
theorem dX3_addKind_36 : decode cX3_addKind 36 = .ok (.getfield 39, 3) := by decide +kernel
theorem dX3_addKind_39 : decode cX3_addKind 39 = .ok (.iconst 0, 1) := by decide +kernel
theorem dX3_addKind_40 : decode cX3_addKind 40 = .ok (.iastore, 1) := by decide +kernel
theorem dX3_addKind_41 : decode cX3_addKind 41 = .ok (.aload_n 0, 1) := by decide +kernel
theorem dX3_addKind_42 : decode cX3_addKind 42 = .ok (.getfield 21, 3) := by decide +kernel
theorem dX3_addKind_45 : decode cX3_addKind 45 = .ok (.aload_n 0, 1) := by decide +kernel
theorem dX3_addKind_46 : decode cX3_addKind 46 = .ok (.getfield 39, 3) := by decide +kernel
theorem dX3_addKind_49 : decode cX3_addKind 49 = .ok (.iconst 0, 1) := by decide +kernel
theorem dX3_addKind_50 : decode cX3_addKind 50 = .ok (.iastore, 1) := by decide +kernel
theorem dX3_addKind_51 : decode cX3_addKind 51 = .ok (.aload_n 0, 1) := by decide +kernel
theorem dX3_addKind_52 : decode cX3_addKind 52 = .ok (.dup, 1) := by decide +kernel
theorem dX3_addKind_53 : decode cX3_addKind 53 = .ok (.getfield 39, 3) := by decide +kernel
theorem dX3_addKind_56 : decode cX3_addKind 56 = .ok (.iconst 1, 1) := by decide +kernel
theorem dX3_addKind_57 : decode cX3_addKind 57 = .ok (.iadd, 1) := by decide +kernel
theorem dX3_addKind_58 : decode cX3_addKind 58 = .ok (.putfield 39, 3) := by decide +kernel
theorem dX3_addKind_61 : decode cX3_addKind 61 = .ok (.return_, 1) := by decide +kernel
theorem dX3_addCon_0 : decode cX3_addCon 0 = .ok (.aload_n 0, 1) := by decide +kernel
theorem dX3_addCon_1 : decode cX3_addCon 1 = .ok (.getfield 39, 3) := by decide +kernel
theorem dX3_addCon_4 : decode cX3_addCon 4 = .ok (.iconst 1, 1) := by decide +kernel
theorem dX3_addCon_5 : decode cX3_addCon 5 = .ok (.isub, 1) := by decide +kernel
theorem dX3_addCon_6 : decode cX3_addCon 6 = .ok (.istore 6, 2) := by decide +kernel
theorem dX3_addCon_8 : decode cX3_addCon 8 = .ok (.aload_n 0, 1) := by decide +kernel
theorem dX3_addCon_9 : decode cX3_addCon 9 = .ok (.iload 6, 2) := by decide +kernel
theorem dX3_addCon_11 : decode cX3_addCon 11 = .ok (.invokevirtual 46, 3) := by decide +kernel
theorem dX3_addCon_14 : decode cX3_addCon 14 = .ok (.ifCond .eq 117, 3) := by decide +kernel
theorem dX3_addCon_17 : decode cX3_addCon 17 = .ok (.aload_n 0, 1) := by decide +kernel
theorem dX3_addCon_18 : decode cX3_addCon 18 = .ok (.getfield 18, 3) := by decide +kernel
theorem dX3_addCon_21 : decode cX3_addCon 21 = .ok (.iload 6, 2) := by decide +kernel
theorem dX3_addCon_23 : decode cX3_addCon 23 = .ok (.iaload, 1) := by decide +kernel
theorem dX3_addCon_24 : decode cX3_addCon 24 = .ok (.bipush 6, 2) := by decide +kernel
theorem dX3_addCon_26 : decode cX3_addCon 26 = .ok (.if_icmp .ge 105, 3) := by decide +kernel
theorem dX3_addCon_29 : decode cX3_addCon 29 = .ok (.aload_n 0, 1) := by decide +kernel
theorem dX3_addCon_30 : decode cX3_addCon 30 = .ok (.getfield 43, 3) := by decide +kernel
theorem dX3_addCon_33 : decode cX3_addCon 33 = .ok (.aload_n 0, 1) := by decide +kernel
theorem dX3_addCon_34 : decode cX3_addCon 34 = .ok (.getfield 24, 3) := by decide +kernel
theorem dX3_addCon_37 : decode cX3_addCon 37 = .ok (.arraylength, 1) := by decide +kernel
theorem dX3_addCon_38 : decode cX3_addCon 38 = .ok (.if_icmp .ge 93, 3) := by decide +kernel
theorem dX3_addCon_41 : decode cX3_addCon 41 = .ok (.aload_n 0, 1) := by decide +kernel
theorem dX3_addCon_42 : decode cX3_addCon 42 = .ok (.getfield 24, 3) := by decide +kernel
theorem dX3_addCon_45 : decode cX3_addCon 45 = .ok (.aload_n 0, 1) := by decide +kernel
theorem dX3_addCon_46 : decode cX3_addCon 46 = .ok (.getfield 43, 3) := by decide +kernel
theorem dX3_addCon_49 : decode cX3_addCon 49 = .ok (.iload_n 1, 1) := by decide +kernel
theorem dX3_addCon_50 : decode cX3_addCon 50 = .ok (.iastore, 1) := by decide +kernel
theorem dX3_addCon_51 : decode cX3_addCon 51 = .ok (.aload_n 0, 1) := by decide +kernel
theorem dX3_addCon_52 : decode cX3_addCon 52 = .ok (.getfield 27, 3) := by decide +kernel
theorem dX3_addCon_55 : decode cX3_addCon 55 = .ok (.aload_n 0, 1) := by decide +kernel
theorem dX3_addCon_56 : decode cX3_addCon 56 = .ok (.getfield 43, 3) := by decide +kernel
theorem dX3_addCon_59 : decode cX3_addCon 59 = .ok (.aload_n 0, 1) := by decide +kernel
theorem dX3_addCon_60 : decode cX3_addCon 60 = .ok (.getfield 21, 3) := by decide +kernel
theorem dX3_addCon_63 : decode cX3_addCon 63 = .ok (.iload 6, 2) := by decide +kernel
theorem dX3_addCon_65 : decode cX3_addCon 65 = .ok (.iaload, 1) := by decide +kernel
theorem dX3_addCon_66 : decode cX3_addCon 66 = .ok (.iastore, 1) := by decide +kernel
theorem dX3_addCon_67 : decode cX3_addCon 67 = .ok (.aload_n 0, 1) := by decide +kernel
theorem dX3_addCon_68 : decode cX3_addCon 68 = .ok (.getfield 30, 3) := by decide +kernel
theorem dX3_addCon_71 : decode cX3_addCon 71 = .ok (.aload_n 0, 1) := by decide +kernel
theorem dX3_addCon_72 : decode cX3_addCon 72 = .ok (.getfield 43, 3) := by decide +kernel
theorem dX3_addCon_75 : decode cX3_addCon 75 = .ok (.iload_n 2, 1) := by decide +kernel
theorem dX3_addCon_76 : decode cX3_addCon 76 = .ok (.iastore, 1) := by decide +kernel
theorem dX3_addCon_77 : decode cX3_addCon 77 = .ok (.aload_n 0, 1) := by decide +kernel
theorem dX3_addCon_78 : decode cX3_addCon 78 = .ok (.getfield 33, 3) := by decide +kernel
theorem dX3_addCon_81 : decode cX3_addCon 81 = .ok (.aload_n 0, 1) := by decide +kernel
theorem dX3_addCon_82 : decode cX3_addCon 82 = .ok (.getfield 43, 3) := by decide +kernel
theorem dX3_addCon_85 : decode cX3_addCon 85 = .ok (.iload_n 3, 1) := by decide +kernel
theorem dX3_addCon_86 : decode cX3_addCon 86 = .ok (.iastore, 1) := by decide +kernel
theorem dX3_addCon_87 : decode cX3_addCon 87 = .ok (.aload_n 0, 1) := by decide +kernel
theorem dX3_addCon_88 : decode cX3_addCon 88 = .ok (.getfield 36, 3) := by decide +kernel
theorem dX3_addCon_91 : decode cX3_addCon 91 = .ok (.aload_n 0, 1) := by decide +kernel
theorem dX3_addCon_92 : decode cX3_addCon 92 = .ok (.getfield 43, 3) := by decide +kernel
theorem dX3_addCon_95 : decode cX3_addCon 95 = .ok (.iload 4, 2) := by decide +kernel
theorem dX3_addCon_97 : decode cX3_addCon 97 = .ok (.iastore, 1) := by decide +kernel
theorem dX3_addCon_98 : decode cX3_addCon 98 = .ok (.aload_n 0, 1) := by decide +kernel
theorem dX3_addCon_99 : decode cX3_addCon 99 = .ok (.dup, 1) := by decide +kernel
theorem dX3_addCon_100 : decode cX3_addCon 100 = .ok (.getfield 43, 3) := by decide +kernel
theorem dX3_addCon_103 : decode cX3_addCon 103 = .ok (.iconst 1, 1) := by decide +kernel
theorem dX3_addCon_104 : decode cX3_addCon 104 = .ok (.iadd, 1) := by decide +kernel
theorem dX3_addCon_105 : decode cX3_addCon 105 = .ok (.putfield 43, 3) := by decide +kernel
theorem dX3_addCon_108 : decode cX3_addCon 108 = .ok (.aload_n 0, 1) := by decide +kernel
theorem dX3_addCon_109 : decode cX3_addCon 109 = .ok (.getfield 18, 3) := by decide +kernel
theorem dX3_addCon_112 : decode cX3_addCon 112 = .ok (.iload 6, 2) := by decide +kernel
theorem dX3_addCon_114 : decode cX3_addCon 114 = .ok (.dup2, 1) := by decide +kernel
theorem dX3_addCon_115 : decode cX3_addCon 115 = .ok (.iaload, 1) := by decide +kernel
theorem dX3_addCon_116 : decode cX3_addCon 116 = .ok (.iconst 1, 1) := by decide +kernel
theorem dX3_addCon_117 : decode cX3_addCon 117 = .ok (.iadd, 1) := by decide +kernel
theorem dX3_addCon_118 : decode cX3_addCon 118 = .ok (.iastore, 1) := by decide +kernel
theorem dX3_addCon_119 : decode cX3_addCon 119 = .ok (.aload_n 0, 1) := by decide +kernel
theorem dX3_addCon_120 : decode cX3_addCon 120 = .ok (.getfield 21, 3) := by decide +kernel
theorem dX3_addCon_123 : decode cX3_addCon 123 = .ok (.iload 6, 2) := by decide +kernel
theorem dX3_addCon_125 : decode cX3_addCon 125 = .ok (.dup2, 1) := by decide +kernel
theorem dX3_addCon_126 : decode cX3_addCon 126 = .ok (.iaload, 1) := by decide +kernel
theorem dX3_addCon_127 : decode cX3_addCon 127 = .ok (.iload 5, 2) := by decide +kernel
theorem dX3_addCon_129 : decode cX3_addCon 129 = .ok (.iadd, 1) := by decide +kernel
theorem dX3_addCon_130 : decode cX3_addCon 130 = .ok (.iastore, 1) := by decide +kernel
theorem dX3_addCon_131 : decode cX3_addCon 131 = .ok (.return_, 1) := by decide +kernel
theorem dX4_init_0 : decode cX4_init 0 = .ok (.aload_n 0, 1) := by decide +kernel
theorem dX4_init_1 : decode cX4_init 1 = .ok (.invokespecial 3, 3) := by decide +kernel
theorem dX4_init_4 : decode cX4_init 4 = .ok (.aload_n 0, 1) := by decide +kernel
theorem dX4_init_5 : decode cX4_init 5 = .ok (.sipush 4096, 3) := by decide +kernel
theorem dX4_init_8 : decode cX4_init 8 = .ok (.newarray .int, 2) := by decide +kernel
theorem dX4_init_10 : decode cX4_init 10 = .ok (.putfield 9, 3) := by decide +kernel
theorem dX4_init_13 : decode cX4_init 13 = .ok (.aload_n 0, 1) := by decide +kernel
theorem dX4_init_14 : decode cX4_init 14 = .ok (.sipush 4096, 3) := by decide +kernel
theorem dX4_init_17 : decode cX4_init 17 = .ok (.newarray .int, 2) := by decide +kernel
theorem dX4_init_19 : decode cX4_init 19 = .ok (.putfield 15, 3) := by decide +kernel
theorem dX4_init_22 : decode cX4_init 22 = .ok (.return_, 1) := by decide +kernel
theorem dX4_renew_0 : decode cX4_renew 0 = .ok (.aload_n 0, 1) := by decide +kernel
theorem dX4_renew_1 : decode cX4_renew 1 = .ok (.dup, 1) := by decide +kernel
theorem dX4_renew_2 : decode cX4_renew 2 = .ok (.getfield 18, 3) := by decide +kernel
theorem dX4_renew_5 : decode cX4_renew 5 = .ok (.iconst 1, 1) := by decide +kernel
theorem dX4_renew_6 : decode cX4_renew 6 = .ok (.iadd, 1) := by decide +kernel
theorem dX4_renew_7 : decode cX4_renew 7 = .ok (.putfield 18, 3) := by decide +kernel
theorem dX4_renew_10 : decode cX4_renew 10 = .ok (.return_, 1) := by decide +kernel
theorem dX4_isNew_0 : decode cX4_isNew 0 = .ok (.iload_n 1, 1) := by decide +kernel
theorem dX4_isNew_1 : decode cX4_isNew 1 = .ok (.ifCond .lt 23, 3) := by decide +kernel
theorem dX4_isNew_4 : decode cX4_isNew 4 = .ok (.iload_n 1, 1) := by decide +kernel
theorem dX4_isNew_5 : decode cX4_isNew 5 = .ok (.sipush 4096, 3) := by decide +kernel
theorem dX4_isNew_8 : decode cX4_isNew 8 = .ok (.if_icmp .ge 16, 3) := by decide +kernel
theorem dX4_isNew_11 : decode cX4_isNew 11 = .ok (.aload_n 0, 1) := by decide +kernel
theorem dX4_isNew_12 : decode cX4_isNew 12 = .ok (.getfield 9, 3) := by decide +kernel
theorem dX4_isNew_15 : decode cX4_isNew 15 = .ok (.iload_n 1, 1) := by decide +kernel
theorem dX4_isNew_16 : decode cX4_isNew 16 = .ok (.iaload, 1) := by decide +kernel
theorem dX4_isNew_17 : decode cX4_isNew 17 = .ok (.aload_n 0, 1) := by decide +kernel
theorem dX4_isNew_18 : decode cX4_isNew 18 = .ok (.getfield 18, 3) := by decide +kernel
theorem dX4_isNew_21 : decode cX4_isNew 21 = .ok (.if_icmp .ne 5, 3) := by decide +kernel
theorem dX4_isNew_24 : decode cX4_isNew 24 = .ok (.iconst 0, 1) := by decide +kernel
theorem dX4_isNew_25 : decode cX4_isNew 25 = .ok (.ireturn, 1) := by decide +kernel
theorem dX4_isNew_26 : decode cX4_isNew 26 = .ok (.aload_n 0, 1) := by decide +kernel
theorem dX4_isNew_27 : decode cX4_isNew 27 = .ok (.getfield 9, 3) := by decide +kernel
