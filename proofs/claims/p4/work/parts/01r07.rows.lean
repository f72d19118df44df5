theorem dX8_mostLeft_61 : decode cX8_mostLeft 61 = .ok (.iadd, 1) := by decide +kernel
theorem dX8_mostLeft_62 : decode cX8_mostLeft 62 = .ok (.istore 6, 2) := by decide +kernel
theorem dX8_mostLeft_64 : decode cX8_mostLeft 64 = .ok (.iload 6, 2) := by decide +kernel
theorem dX8_mostLeft_66 : decode cX8_mostLeft 66 = .ok (.ifCond .lt 35, 3) := by decide +kernel
theorem dX8_mostLeft_69 : decode cX8_mostLeft 69 = .ok (.iload 6, 2) := by decide +kernel
theorem dX8_mostLeft_71 : decode cX8_mostLeft 71 = .ok (.bipush 12, 2) := by decide +kernel
theorem dX8_mostLeft_73 : decode cX8_mostLeft 73 = .ok (.if_icmp .gt 28, 3) := by decide +kernel
theorem dX8_mostLeft_76 : decode cX8_mostLeft 76 = .ok (.aload_n 0, 1) := by decide +kernel
theorem dX8_mostLeft_77 : decode cX8_mostLeft 77 = .ok (.getfield 21, 3) := by decide +kernel
theorem dX8_mostLeft_80 : decode cX8_mostLeft 80 = .ok (.iload 6, 2) := by decide +kernel
theorem dX8_mostLeft_82 : decode cX8_mostLeft 82 = .ok (.dup2, 1) := by decide +kernel
theorem dX8_mostLeft_83 : decode cX8_mostLeft 83 = .ok (.iaload, 1) := by decide +kernel
theorem dX8_mostLeft_84 : decode cX8_mostLeft 84 = .ok (.iconst 1, 1) := by decide +kernel
theorem dX8_mostLeft_85 : decode cX8_mostLeft 85 = .ok (.iadd, 1) := by decide +kernel
theorem dX8_mostLeft_86 : decode cX8_mostLeft 86 = .ok (.iastore, 1) := by decide +kernel
theorem dX8_mostLeft_87 : decode cX8_mostLeft 87 = .ok (.iload 4, 2) := by decide +kernel
theorem dX8_mostLeft_89 : decode cX8_mostLeft 89 = .ok (.aload_n 0, 1) := by decide +kernel
theorem dX8_mostLeft_90 : decode cX8_mostLeft 90 = .ok (.getfield 21, 3) := by decide +kernel
theorem dX8_mostLeft_93 : decode cX8_mostLeft 93 = .ok (.iload 6, 2) := by decide +kernel
theorem dX8_mostLeft_95 : decode cX8_mostLeft 95 = .ok (.iaload, 1) := by decide +kernel
theorem dX8_mostLeft_96 : decode cX8_mostLeft 96 = .ok (.invokestatic 69, 3) := by decide +kernel
theorem dX8_mostLeft_99 : decode cX8_mostLeft 99 = .ok (.istore 4, 2) := by decide +kernel
theorem dX8_mostLeft_101 : decode cX8_mostLeft 101 = .ok (.iinc 5 1, 3) := by decide +kernel
theorem dX8_mostLeft_104 : decode cX8_mostLeft 104 = .ok (.goto (-74), 3) := by decide +kernel
theorem dX8_mostLeft_107 : decode cX8_mostLeft 107 = .ok (.iload 4, 2) := by decide +kernel
theorem dX8_mostLeft_109 : decode cX8_mostLeft 109 = .ok (.ireturn, 1) := by decide +kernel
theorem dX9_init_0 : decode cX9_init 0 = .ok (.aload_n 0, 1) := by decide +kernel
theorem dX9_init_1 : decode cX9_init 1 = .ok (.invokespecial 3, 3) := by decide +kernel
theorem dX9_init_4 : decode cX9_init 4 = .ok (.aload_n 0, 1) := by decide +kernel
theorem dX9_init_5 : decode cX9_init 5 = .ok (.new 9, 3) := by decide +kernel
theorem dX9_init_8 : decode cX9_init 8 = .ok (.dup, 1) := by decide +kernel
theorem dX9_init_9 : decode cX9_init 9 = .ok (.invokespecial 11, 3) := by decide +kernel
theorem dX9_init_12 : decode cX9_init 12 = .ok (.putfield 12, 3) := by decide +kernel
theorem dX9_init_15 : decode cX9_init 15 = .ok (.aload_n 0, 1) := by decide +kernel
theorem dX9_init_16 : decode cX9_init 16 = .ok (.iconst 4, 1) := by decide +kernel
theorem dX9_init_17 : decode cX9_init 17 = .ok (.newarray .int, 2) := by decide +kernel
theorem dX9_init_19 : decode cX9_init 19 = .ok (.putfield 18, 3) := by decide +kernel
theorem dX9_init_22 : decode cX9_init 22 = .ok (.aload_n 0, 1) := by decide +kernel
theorem dX9_init_23 : decode cX9_init 23 = .ok (.iconst 4, 1) := by decide +kernel
theorem dX9_init_24 : decode cX9_init 24 = .ok (.newarray .int, 2) := by decide +kernel
theorem dX9_init_26 : decode cX9_init 26 = .ok (.putfield 22, 3) := by decide +kernel
theorem dX9_init_29 : decode cX9_init 29 = .ok (.aload_n 0, 1) := by decide +kernel
theorem dX9_init_30 : decode cX9_init 30 = .ok (.iconst 4, 1) := by decide +kernel
theorem dX9_init_31 : decode cX9_init 31 = .ok (.newarray .int, 2) := by decide +kernel
theorem dX9_init_33 : decode cX9_init 33 = .ok (.putfield 25, 3) := by decide +kernel
theorem dX9_init_36 : decode cX9_init 36 = .ok (.aload_n 0, 1) := by decide +kernel
theorem dX9_init_37 : decode cX9_init 37 = .ok (.bipush 12, 2) := by decide +kernel
theorem dX9_init_39 : decode cX9_init 39 = .ok (.newarray .int, 2) := by decide +kernel
theorem dX9_init_41 : decode cX9_init 41 = .ok (.putfield 28, 3) := by decide +kernel
theorem dX9_init_44 : decode cX9_init 44 = .ok (.aload_n 0, 1) := by decide +kernel
theorem dX9_init_45 : decode cX9_init 45 = .ok (.iconst 4, 1) := by decide +kernel
theorem dX9_init_46 : decode cX9_init 46 = .ok (.sipush 2048, 3) := by decide +kernel
theorem dX9_init_49 : decode cX9_init 49 = .ok (.multianewarray 31 2, 4) := by decide +kernel
theorem dX9_init_53 : decode cX9_init 53 = .ok (.putfield 33, 3) := by decide +kernel
theorem dX9_init_56 : decode cX9_init 56 = .ok (.return_, 1) := by decide +kernel
theorem dX9_clear_0 : decode cX9_clear 0 = .ok (.aload_n 0, 1) := by decide +kernel
theorem dX9_clear_1 : decode cX9_clear 1 = .ok (.getfield 12, 3) := by decide +kernel
theorem dX9_clear_4 : decode cX9_clear 4 = .ok (.invokevirtual 36, 3) := by decide +kernel
theorem dX9_clear_7 : decode cX9_clear 7 = .ok (.aload_n 0, 1) := by decide +kernel
theorem dX9_clear_8 : decode cX9_clear 8 = .ok (.iconst 0, 1) := by decide +kernel
theorem dX9_clear_9 : decode cX9_clear 9 = .ok (.putfield 39, 3) := by decide +kernel
theorem dX9_clear_12 : decode cX9_clear 12 = .ok (.aload_n 0, 1) := by decide +kernel
theorem dX9_clear_13 : decode cX9_clear 13 = .ok (.iconst 0, 1) := by decide +kernel
theorem dX9_clear_14 : decode cX9_clear 14 = .ok (.putfield 43, 3) := by decide +kernel
theorem dX9_clear_17 : decode cX9_clear 17 = .ok (.aload_n 0, 1) := by decide +kernel
theorem dX9_clear_18 : decode cX9_clear 18 = .ok (.iconst 0, 1) := by decide +kernel
theorem dX9_clear_19 : decode cX9_clear 19 = .ok (.putfield 46, 3) := by decide +kernel
theorem dX9_clear_22 : decode cX9_clear 22 = .ok (.aload_n 0, 1) := by decide +kernel
theorem dX9_clear_23 : decode cX9_clear 23 = .ok (.iconst 0, 1) := by decide +kernel
theorem dX9_clear_24 : decode cX9_clear 24 = .ok (.putfield 49, 3) := by decide +kernel
theorem dX9_clear_27 : decode cX9_clear 27 = .ok (.aload_n 0, 1) := by decide +kernel
theorem dX9_clear_28 : decode cX9_clear 28 = .ok (.sipush 300, 3) := by decide +kernel
theorem dX9_clear_31 : decode cX9_clear 31 = .ok (.putfield 52, 3) := by decide +kernel
theorem dX9_clear_34 : decode cX9_clear 34 = .ok (.return_, 1) := by decide +kernel
theorem dX9_addColumn_0 : decode cX9_addColumn 0 = .ok (.aload_n 0, 1) := by decide +kernel
theorem dX9_addColumn_1 : decode cX9_addColumn 1 = .ok (.getfield 12, 3) := by decide +kernel
theorem dX9_addColumn_4 : decode cX9_addColumn 4 = .ok (.iload_n 1, 1) := by decide +kernel
theorem dX9_addColumn_5 : decode cX9_addColumn 5 = .ok (.invokevirtual 55, 3) := by decide +kernel
theorem dX9_addColumn_8 : decode cX9_addColumn 8 = .ok (.istore_n 2, 1) := by decide +kernel
theorem dX9_addColumn_9 : decode cX9_addColumn 9 = .ok (.aload_n 0, 1) := by decide +kernel
theorem dX9_addColumn_10 : decode cX9_addColumn 10 = .ok (.getfield 39, 3) := by decide +kernel
theorem dX9_addColumn_13 : decode cX9_addColumn 13 = .ok (.iconst 4, 1) := by decide +kernel
theorem dX9_addColumn_14 : decode cX9_addColumn 14 = .ok (.if_icmp .ge 10, 3) := by decide +kernel
theorem dX9_addColumn_17 : decode cX9_addColumn 17 = .ok (.iload_n 2, 1) := by decide +kernel
theorem dX9_addColumn_18 : decode cX9_addColumn 18 = .ok (.sipush 2048, 3) := by decide +kernel
theorem dX9_addColumn_21 : decode cX9_addColumn 21 = .ok (.if_icmp .le 4, 3) := by decide +kernel
theorem dX9_addColumn_24 : decode cX9_addColumn 24 = .ok (.return_, 1) := by decide +kernel
theorem dX9_addColumn_25 : decode cX9_addColumn 25 = .ok (.aload_n 0, 1) := by decide +kernel
theorem dX9_addColumn_26 : decode cX9_addColumn 26 = .ok (.getfield 18, 3) := by decide +kernel
theorem dX9_addColumn_29 : decode cX9_addColumn 29 = .ok (.aload_n 0, 1) := by decide +kernel
theorem dX9_addColumn_30 : decode cX9_addColumn 30 = .ok (.getfield 39, 3) := by decide +kernel
theorem dX9_addColumn_33 : decode cX9_addColumn 33 = .ok (.iload_n 1, 1) := by decide +kernel
theorem dX9_addColumn_34 : decode cX9_addColumn 34 = .ok (.iastore, 1) := by decide +kernel
theorem dX9_addColumn_35 : decode cX9_addColumn 35 = .ok (.aload_n 0, 1) := by decide +kernel
theorem dX9_addColumn_36 : decode cX9_addColumn 36 = .ok (.getfield 22, 3) := by decide +kernel
theorem dX9_addColumn_39 : decode cX9_addColumn 39 = .ok (.aload_n 0, 1) := by decide +kernel
theorem dX9_addColumn_40 : decode cX9_addColumn 40 = .ok (.getfield 39, 3) := by decide +kernel
theorem dX9_addColumn_43 : decode cX9_addColumn 43 = .ok (.iload_n 2, 1) := by decide +kernel
theorem dX9_addColumn_44 : decode cX9_addColumn 44 = .ok (.iastore, 1) := by decide +kernel
theorem dX9_addColumn_45 : decode cX9_addColumn 45 = .ok (.aload_n 0, 1) := by decide +kernel
theorem dX9_addColumn_46 : decode cX9_addColumn 46 = .ok (.getfield 25, 3) := by decide +kernel
theorem dX9_addColumn_49 : decode cX9_addColumn 49 = .ok (.aload_n 0, 1) := by decide +kernel
theorem dX9_addColumn_50 : decode cX9_addColumn 50 = .ok (.getfield 39, 3) := by decide +kernel
theorem dX9_addColumn_53 : decode cX9_addColumn 53 = .ok (.iconst 0, 1) := by decide +kernel
theorem dX9_addColumn_54 : decode cX9_addColumn 54 = .ok (.iastore, 1) := by decide +kernel
theorem dX9_addColumn_55 : decode cX9_addColumn 55 = .ok (.iconst 0, 1) := by decide +kernel
theorem dX9_addColumn_56 : decode cX9_addColumn 56 = .ok (.istore_n 3, 1) := by decide +kernel
theorem dX9_addColumn_57 : decode cX9_addColumn 57 = .ok (.iload_n 3, 1) := by decide +kernel
theorem dX9_addColumn_58 : decode cX9_addColumn 58 = .ok (.iload_n 2, 1) := by decide +kernel
theorem dX9_addColumn_59 : decode cX9_addColumn 59 = .ok (.if_icmp .ge 21, 3) := by decide +kernel
theorem dX9_addColumn_62 : decode cX9_addColumn 62 = .ok (.aload_n 0, 1) := by decide +kernel
theorem dX9_addColumn_63 : decode cX9_addColumn 63 = .ok (.getfield 33, 3) := by decide +kernel
theorem dX9_addColumn_66 : decode cX9_addColumn 66 = .ok (.aload_n 0, 1) := by decide +kernel
theorem dX9_addColumn_67 : decode cX9_addColumn 67 = .ok (.getfield 39, 3) := by decide +kernel
theorem dX9_addColumn_70 : decode cX9_addColumn 70 = .ok (.aaload, 1) := by decide +kernel
theorem dX9_addColumn_71 : decode cX9_addColumn 71 = .ok (.iload_n 3, 1) := by decide +kernel
theorem dX9_addColumn_72 : decode cX9_addColumn 72 = .ok (.iconst 0, 1) := by decide +kernel
theorem dX9_addColumn_73 : decode cX9_addColumn 73 = .ok (.iastore, 1) := by decide +kernel
theorem dX9_addColumn_74 : decode cX9_addColumn 74 = .ok (.iinc 3 1, 3) := by decide +kernel
theorem dX9_addColumn_77 : decode cX9_addColumn 77 = .ok (.goto (-20), 3) := by decide +kernel
theorem dX9_addColumn_80 : decode cX9_addColumn 80 = .ok (.aload_n 0, 1) := by decide +kernel
theorem dX9_addColumn_81 : decode cX9_addColumn 81 = .ok (.aload_n 0, 1) := by decide +kernel
theorem dX9_addColumn_82 : decode cX9_addColumn 82 = .ok (.getfield 39, 3) := by decide +kernel
theorem dX9_addColumn_85 : decode cX9_addColumn 85 = .ok (.ifCond .ne 7, 3) := by decide +kernel
theorem dX9_addColumn_88 : decode cX9_addColumn 88 = .ok (.iload_n 2, 1) := by decide +kernel
theorem dX9_addColumn_89 : decode cX9_addColumn 89 = .ok (.goto 9, 3) := by decide +kernel
theorem dX9_addColumn_92 : decode cX9_addColumn 92 = .ok (.aload_n 0, 1) := by decide +kernel
theorem dX9_addColumn_93 : decode cX9_addColumn 93 = .ok (.getfield 43, 3) := by decide +kernel
theorem dX9_addColumn_96 : decode cX9_addColumn 96 = .ok (.iload_n 2, 1) := by decide +kernel
theorem dX9_addColumn_97 : decode cX9_addColumn 97 = .ok (.imul, 1) := by decide +kernel
theorem dX9_addColumn_98 : decode cX9_addColumn 98 = .ok (.putfield 43, 3) := by decide +kernel
theorem dX9_addColumn_101 : decode cX9_addColumn 101 = .ok (.aload_n 0, 1) := by decide +kernel
theorem dX9_addColumn_102 : decode cX9_addColumn 102 = .ok (.dup, 1) := by decide +kernel
theorem dX9_addColumn_103 : decode cX9_addColumn 103 = .ok (.getfield 39, 3) := by decide +kernel
theorem dX9_addColumn_106 : decode cX9_addColumn 106 = .ok (.iconst 1, 1) := by decide +kernel
theorem dX9_addColumn_107 : decode cX9_addColumn 107 = .ok (.iadd, 1) := by decide +kernel
theorem dX9_addColumn_108 : decode cX9_addColumn 108 = .ok (.putfield 39, 3) := by decide +kernel
theorem dX9_addColumn_111 : decode cX9_addColumn 111 = .ok (.return_, 1) := by decide +kernel
theorem dX9_setPattern_0 : decode cX9_setPattern 0 = .ok (.iload_n 1, 1) := by decide +kernel
theorem dX9_setPattern_1 : decode cX9_setPattern 1 = .ok (.ifCond .lt 20, 3) := by decide +kernel
theorem dX9_setPattern_4 : decode cX9_setPattern 4 = .ok (.iload_n 1, 1) := by decide +kernel
theorem dX9_setPattern_5 : decode cX9_setPattern 5 = .ok (.aload_n 0, 1) := by decide +kernel
theorem dX9_setPattern_6 : decode cX9_setPattern 6 = .ok (.getfield 39, 3) := by decide +kernel
theorem dX9_setPattern_9 : decode cX9_setPattern 9 = .ok (.if_icmp .ge 12, 3) := by decide +kernel
theorem dX9_setPattern_12 : decode cX9_setPattern 12 = .ok (.aload_n 0, 1) := by decide +kernel
theorem dX9_setPattern_13 : decode cX9_setPattern 13 = .ok (.getfield 46, 3) := by decide +kernel
theorem dX9_setPattern_16 : decode cX9_setPattern 16 = .ok (.bipush 12, 2) := by decide +kernel
theorem dX9_setPattern_18 : decode cX9_setPattern 18 = .ok (.if_icmp .lt 4, 3) := by decide +kernel
theorem dX9_setPattern_21 : decode cX9_setPattern 21 = .ok (.return_, 1) := by decide +kernel
theorem dX9_setPattern_22 : decode cX9_setPattern 22 = .ok (.iconst 1, 1) := by decide +kernel
theorem dX9_setPattern_23 : decode cX9_setPattern 23 = .ok (.aload_n 0, 1) := by decide +kernel
theorem dX9_setPattern_24 : decode cX9_setPattern 24 = .ok (.getfield 46, 3) := by decide +kernel
theorem dX9_setPattern_27 : decode cX9_setPattern 27 = .ok (.ishl, 1) := by decide +kernel
theorem dX9_setPattern_28 : decode cX9_setPattern 28 = .ok (.istore_n 3, 1) := by decide +kernel
theorem dX9_setPattern_29 : decode cX9_setPattern 29 = .ok (.iconst 1, 1) := by decide +kernel
theorem dX9_setPattern_30 : decode cX9_setPattern 30 = .ok (.istore 4, 2) := by decide +kernel
theorem dX9_setPattern_32 : decode cX9_setPattern 32 = .ok (.iconst 0, 1) := by decide +kernel
theorem dX9_setPattern_33 : decode cX9_setPattern 33 = .ok (.istore 5, 2) := by decide +kernel
theorem dX9_setPattern_35 : decode cX9_setPattern 35 = .ok (.iload 5, 2) := by decide +kernel
theorem dX9_setPattern_37 : decode cX9_setPattern 37 = .ok (.aload_n 0, 1) := by decide +kernel
theorem dX9_setPattern_38 : decode cX9_setPattern 38 = .ok (.getfield 22, 3) := by decide +kernel
theorem dX9_setPattern_41 : decode cX9_setPattern 41 = .ok (.iload_n 1, 1) := by decide +kernel
theorem dX9_setPattern_42 : decode cX9_setPattern 42 = .ok (.iaload, 1) := by decide +kernel
theorem dX9_setPattern_43 : decode cX9_setPattern 43 = .ok (.if_icmp .ge 42, 3) := by decide +kernel
theorem dX9_setPattern_46 : decode cX9_setPattern 46 = .ok (.iload 5, 2) := by decide +kernel
theorem dX9_setPattern_48 : decode cX9_setPattern 48 = .ok (.aload_n 2, 1) := by decide +kernel
theorem dX9_setPattern_49 : decode cX9_setPattern 49 = .ok (.arraylength, 1) := by decide +kernel
theorem dX9_setPattern_50 : decode cX9_setPattern 50 = .ok (.if_icmp .ge 35, 3) := by decide +kernel
theorem dX9_setPattern_53 : decode cX9_setPattern 53 = .ok (.aload_n 2, 1) := by decide +kernel
theorem dX9_setPattern_54 : decode cX9_setPattern 54 = .ok (.iload 5, 2) := by decide +kernel
theorem dX9_setPattern_56 : decode cX9_setPattern 56 = .ok (.iaload, 1) := by decide +kernel
theorem dX9_setPattern_57 : decode cX9_setPattern 57 = .ok (.ifCond .eq 19, 3) := by decide +kernel
theorem dX9_setPattern_60 : decode cX9_setPattern 60 = .ok (.aload_n 0, 1) := by decide +kernel
theorem dX9_setPattern_61 : decode cX9_setPattern 61 = .ok (.getfield 33, 3) := by decide +kernel
theorem dX9_setPattern_64 : decode cX9_setPattern 64 = .ok (.iload_n 1, 1) := by decide +kernel
theorem dX9_setPattern_65 : decode cX9_setPattern 65 = .ok (.aaload, 1) := by decide +kernel
theorem dX9_setPattern_66 : decode cX9_setPattern 66 = .ok (.iload 5, 2) := by decide +kernel
theorem dX9_setPattern_68 : decode cX9_setPattern 68 = .ok (.dup2, 1) := by decide +kernel
theorem dX9_setPattern_69 : decode cX9_setPattern 69 = .ok (.iaload, 1) := by decide +kernel
theorem dX9_setPattern_70 : decode cX9_setPattern 70 = .ok (.iload_n 3, 1) := by decide +kernel
theorem dX9_setPattern_71 : decode cX9_setPattern 71 = .ok (.ior, 1) := by decide +kernel
theorem dX9_setPattern_72 : decode cX9_setPattern 72 = .ok (.iastore, 1) := by decide +kernel
theorem dX9_setPattern_73 : decode cX9_setPattern 73 = .ok (.goto 6, 3) := by decide +kernel
theorem dX9_setPattern_76 : decode cX9_setPattern 76 = .ok (.iconst 0, 1) := by decide +kernel
theorem dX9_setPattern_77 : decode cX9_setPattern 77 = .ok (.istore 4, 2) := by decide +kernel
theorem dX9_setPattern_79 : decode cX9_setPattern 79 = .ok (.iinc 5 1, 3) := by decide +kernel
theorem dX9_setPattern_82 : decode cX9_setPattern 82 = .ok (.goto (-47), 3) := by decide +kernel
theorem dX9_setPattern_85 : decode cX9_setPattern 85 = .ok (.iload 4, 2) := by decide +kernel
theorem dX9_setPattern_87 : decode cX9_setPattern 87 = .ok (.ifCond .eq 13, 3) := by decide +kernel
theorem dX9_setPattern_90 : decode cX9_setPattern 90 = .ok (.aload_n 0, 1) := by decide +kernel
theorem dX9_setPattern_91 : decode cX9_setPattern 91 = .ok (.getfield 25, 3) := by decide +kernel
theorem dX9_setPattern_94 : decode cX9_setPattern 94 = .ok (.iload_n 1, 1) := by decide +kernel
theorem dX9_setPattern_95 : decode cX9_setPattern 95 = .ok (.dup2, 1) := by decide +kernel
theorem dX9_setPattern_96 : decode cX9_setPattern 96 = .ok (.iaload, 1) := by decide +kernel
theorem dX9_setPattern_97 : decode cX9_setPattern 97 = .ok (.iload_n 3, 1) := by decide +kernel
theorem dX9_setPattern_98 : decode cX9_setPattern 98 = .ok (.ior, 1) := by decide +kernel
theorem dX9_setPattern_99 : decode cX9_setPattern 99 = .ok (.iastore, 1) := by decide +kernel
theorem dX9_setPattern_100 : decode cX9_setPattern 100 = .ok (.return_, 1) := by decide +kernel
theorem dX9_addArm_0 : decode cX9_addArm 0 = .ok (.aload_n 0, 1) := by decide +kernel
theorem dX9_addArm_1 : decode cX9_addArm 1 = .ok (.getfield 46, 3) := by decide +kernel
theorem dX9_addArm_4 : decode cX9_addArm 4 = .ok (.bipush 12, 2) := by decide +kernel
theorem dX9_addArm_6 : decode cX9_addArm 6 = .ok (.if_icmp .ge 23, 3) := by decide +kernel
theorem dX9_addArm_9 : decode cX9_addArm 9 = .ok (.aload_n 0, 1) := by decide +kernel
theorem dX9_addArm_10 : decode cX9_addArm 10 = .ok (.getfield 28, 3) := by decide +kernel
theorem dX9_addArm_13 : decode cX9_addArm 13 = .ok (.aload_n 0, 1) := by decide +kernel
theorem dX9_addArm_14 : decode cX9_addArm 14 = .ok (.getfield 46, 3) := by decide +kernel
theorem dX9_addArm_17 : decode cX9_addArm 17 = .ok (.iload_n 1, 1) := by decide +kernel
theorem dX9_addArm_18 : decode cX9_addArm 18 = .ok (.iastore, 1) := by decide +kernel
theorem dX9_addArm_19 : decode cX9_addArm 19 = .ok (.aload_n 0, 1) := by decide +kernel
theorem dX9_addArm_20 : decode cX9_addArm 20 = .ok (.dup, 1) := by decide +kernel
theorem dX9_addArm_21 : decode cX9_addArm 21 = .ok (.getfield 46, 3) := by decide +kernel
theorem dX9_addArm_24 : decode cX9_addArm 24 = .ok (.iconst 1, 1) := by decide +kernel
theorem dX9_addArm_25 : decode cX9_addArm 25 = .ok (.iadd, 1) := by decide +kernel
theorem dX9_addArm_26 : decode cX9_addArm 26 = .ok (.putfield 46, 3) := by decide +kernel
theorem dX9_addArm_29 : decode cX9_addArm 29 = .ok (.return_, 1) := by decide +kernel
theorem dX9_guardOf_0 : decode cX9_guardOf 0 = .ok (.iload_n 1, 1) := by decide +kernel
theorem dX9_guardOf_1 : decode cX9_guardOf 1 = .ok (.ifCond .lt 20, 3) := by decide +kernel
theorem dX9_guardOf_4 : decode cX9_guardOf 4 = .ok (.iload_n 1, 1) := by decide +kernel
theorem dX9_guardOf_5 : decode cX9_guardOf 5 = .ok (.aload_n 0, 1) := by decide +kernel
theorem dX9_guardOf_6 : decode cX9_guardOf 6 = .ok (.getfield 46, 3) := by decide +kernel
theorem dX9_guardOf_9 : decode cX9_guardOf 9 = .ok (.if_icmp .ge 12, 3) := by decide +kernel
theorem dX9_guardOf_12 : decode cX9_guardOf 12 = .ok (.aload_n 0, 1) := by decide +kernel
theorem dX9_guardOf_13 : decode cX9_guardOf 13 = .ok (.getfield 28, 3) := by decide +kernel
theorem dX9_guardOf_16 : decode cX9_guardOf 16 = .ok (.iload_n 1, 1) := by decide +kernel
theorem dX9_guardOf_17 : decode cX9_guardOf 17 = .ok (.iaload, 1) := by decide +kernel
theorem dX9_guardOf_18 : decode cX9_guardOf 18 = .ok (.goto 4, 3) := by decide +kernel
theorem dX9_guardOf_21 : decode cX9_guardOf 21 = .ok (.iconst (-1), 1) := by decide +kernel
theorem dX9_guardOf_22 : decode cX9_guardOf 22 = .ok (.ireturn, 1) := by decide +kernel
theorem dX9_isRow_0 : decode cX9_isRow 0 = .ok (.iload_n 1, 1) := by decide +kernel
theorem dX9_isRow_1 : decode cX9_isRow 1 = .ok (.ifCond .lt 15, 3) := by decide +kernel
theorem dX9_isRow_4 : decode cX9_isRow 4 = .ok (.iload_n 1, 1) := by decide +kernel
theorem dX9_isRow_5 : decode cX9_isRow 5 = .ok (.aload_n 0, 1) := by decide +kernel
theorem dX9_isRow_6 : decode cX9_isRow 6 = .ok (.getfield 43, 3) := by decide +kernel
theorem dX9_isRow_9 : decode cX9_isRow 9 = .ok (.if_icmp .ge 7, 3) := by decide +kernel
theorem dX9_isRow_12 : decode cX9_isRow 12 = .ok (.iconst 1, 1) := by decide +kernel
theorem dX9_isRow_13 : decode cX9_isRow 13 = .ok (.goto 4, 3) := by decide +kernel
theorem dX9_isRow_16 : decode cX9_isRow 16 = .ok (.iconst 0, 1) := by decide +kernel
theorem dX9_isRow_17 : decode cX9_isRow 17 = .ok (.ireturn, 1) := by decide +kernel
theorem dX9_armsFitting_0 : decode cX9_armsFitting 0 = .ok (.iload_n 1, 1) := by decide +kernel
theorem dX9_armsFitting_1 : decode cX9_armsFitting 1 = .ok (.ifCond .lt 22, 3) := by decide +kernel
theorem dX9_armsFitting_4 : decode cX9_armsFitting 4 = .ok (.iload_n 1, 1) := by decide +kernel
theorem dX9_armsFitting_5 : decode cX9_armsFitting 5 = .ok (.aload_n 0, 1) := by decide +kernel
theorem dX9_armsFitting_6 : decode cX9_armsFitting 6 = .ok (.getfield 39, 3) := by decide +kernel
theorem dX9_armsFitting_9 : decode cX9_armsFitting 9 = .ok (.if_icmp .ge 14, 3) := by decide +kernel
theorem dX9_armsFitting_12 : decode cX9_armsFitting 12 = .ok (.iload_n 2, 1) := by decide +kernel
theorem dX9_armsFitting_13 : decode cX9_armsFitting 13 = .ok (.ifCond .lt 10, 3) := by decide +kernel
theorem dX9_armsFitting_16 : decode cX9_armsFitting 16 = .ok (.iload_n 2, 1) := by decide +kernel
theorem dX9_armsFitting_17 : decode cX9_armsFitting 17 = .ok (.sipush 2048, 3) := by decide +kernel
theorem dX9_armsFitting_20 : decode cX9_armsFitting 20 = .ok (.if_icmp .lt 5, 3) := by decide +kernel
theorem dX9_armsFitting_23 : decode cX9_armsFitting 23 = .ok (.iconst 0, 1) := by decide +kernel
theorem dX9_armsFitting_24 : decode cX9_armsFitting 24 = .ok (.ireturn, 1) := by decide +kernel
theorem dX9_armsFitting_25 : decode cX9_armsFitting 25 = .ok (.aload_n 0, 1) := by decide +kernel
theorem dX9_armsFitting_26 : decode cX9_armsFitting 26 = .ok (.getfield 33, 3) := by decide +kernel
theorem dX9_armsFitting_29 : decode cX9_armsFitting 29 = .ok (.iload_n 1, 1) := by decide +kernel
theorem dX9_armsFitting_30 : decode cX9_armsFitting 30 = .ok (.aaload, 1) := by decide +kernel
theorem dX9_armsFitting_31 : decode cX9_armsFitting 31 = .ok (.iload_n 2, 1) := by decide +kernel
theorem dX9_armsFitting_32 : decode cX9_armsFitting 32 = .ok (.iaload, 1) := by decide +kernel
theorem dX9_armsFitting_33 : decode cX9_armsFitting 33 = .ok (.ireturn, 1) := by decide +kernel
theorem dX9_valueOf_0 : decode cX9_valueOf 0 = .ok (.iload_n 1, 1) := by decide +kernel
theorem dX9_valueOf_1 : decode cX9_valueOf 1 = .ok (.istore_n 3, 1) := by decide +kernel
theorem dX9_valueOf_2 : decode cX9_valueOf 2 = .ok (.aload_n 0, 1) := by decide +kernel
theorem dX9_valueOf_3 : decode cX9_valueOf 3 = .ok (.getfield 39, 3) := by decide +kernel
theorem dX9_valueOf_6 : decode cX9_valueOf 6 = .ok (.iconst 1, 1) := by decide +kernel
theorem dX9_valueOf_7 : decode cX9_valueOf 7 = .ok (.isub, 1) := by decide +kernel
theorem dX9_valueOf_8 : decode cX9_valueOf 8 = .ok (.istore 4, 2) := by decide +kernel
theorem dX9_valueOf_10 : decode cX9_valueOf 10 = .ok (.iload 4, 2) := by decide +kernel
theorem dX9_valueOf_12 : decode cX9_valueOf 12 = .ok (.iload_n 2, 1) := by decide +kernel
theorem dX9_valueOf_13 : decode cX9_valueOf 13 = .ok (.if_icmp .le 33, 3) := by decide +kernel
theorem dX9_valueOf_16 : decode cX9_valueOf 16 = .ok (.aload_n 0, 1) := by decide +kernel
theorem dX9_valueOf_17 : decode cX9_valueOf 17 = .ok (.getfield 22, 3) := by decide +kernel
theorem dX9_valueOf_20 : decode cX9_valueOf 20 = .ok (.iload 4, 2) := by decide +kernel
theorem dX9_valueOf_22 : decode cX9_valueOf 22 = .ok (.iaload, 1) := by decide +kernel
theorem dX9_valueOf_23 : decode cX9_valueOf 23 = .ok (.ifCond .le 15, 3) := by decide +kernel
theorem dX9_valueOf_26 : decode cX9_valueOf 26 = .ok (.iload_n 3, 1) := by decide +kernel
theorem dX9_valueOf_27 : decode cX9_valueOf 27 = .ok (.aload_n 0, 1) := by decide +kernel
theorem dX9_valueOf_28 : decode cX9_valueOf 28 = .ok (.getfield 22, 3) := by decide +kernel
theorem dX9_valueOf_31 : decode cX9_valueOf 31 = .ok (.iload 4, 2) := by decide +kernel
theorem dX9_valueOf_33 : decode cX9_valueOf 33 = .ok (.iaload, 1) := by decide +kernel
theorem dX9_valueOf_34 : decode cX9_valueOf 34 = .ok (.idiv, 1) := by decide +kernel
theorem dX9_valueOf_35 : decode cX9_valueOf 35 = .ok (.goto 4, 3) := by decide +kernel
theorem dX9_valueOf_38 : decode cX9_valueOf 38 = .ok (.iconst 0, 1) := by decide +kernel
theorem dX9_valueOf_39 : decode cX9_valueOf 39 = .ok (.istore_n 3, 1) := by decide +kernel
theorem dX9_valueOf_40 : decode cX9_valueOf 40 = .ok (.iinc 4 (-1), 3) := by decide +kernel
theorem dX9_valueOf_43 : decode cX9_valueOf 43 = .ok (.goto (-33), 3) := by decide +kernel
theorem dX9_valueOf_46 : decode cX9_valueOf 46 = .ok (.iload_n 2, 1) := by decide +kernel
theorem dX9_valueOf_47 : decode cX9_valueOf 47 = .ok (.ifCond .lt 31, 3) := by decide +kernel
theorem dX9_valueOf_50 : decode cX9_valueOf 50 = .ok (.iload_n 2, 1) := by decide +kernel
theorem dX9_valueOf_51 : decode cX9_valueOf 51 = .ok (.aload_n 0, 1) := by decide +kernel
theorem dX9_valueOf_52 : decode cX9_valueOf 52 = .ok (.getfield 39, 3) := by decide +kernel
theorem dX9_valueOf_55 : decode cX9_valueOf 55 = .ok (.if_icmp .ge 23, 3) := by decide +kernel
theorem dX9_valueOf_58 : decode cX9_valueOf 58 = .ok (.aload_n 0, 1) := by decide +kernel
theorem dX9_valueOf_59 : decode cX9_valueOf 59 = .ok (.getfield 22, 3) := by decide +kernel
theorem dX9_valueOf_62 : decode cX9_valueOf 62 = .ok (.iload_n 2, 1) := by decide +kernel
theorem dX9_valueOf_63 : decode cX9_valueOf 63 = .ok (.iaload, 1) := by decide +kernel
theorem dX9_valueOf_64 : decode cX9_valueOf 64 = .ok (.ifCond .le 14, 3) := by decide +kernel
theorem dX9_valueOf_67 : decode cX9_valueOf 67 = .ok (.iload_n 3, 1) := by decide +kernel
theorem dX9_valueOf_68 : decode cX9_valueOf 68 = .ok (.aload_n 0, 1) := by decide +kernel
theorem dX9_valueOf_69 : decode cX9_valueOf 69 = .ok (.getfield 22, 3) := by decide +kernel
theorem dX9_valueOf_72 : decode cX9_valueOf 72 = .ok (.iload_n 2, 1) := by decide +kernel
theorem dX9_valueOf_73 : decode cX9_valueOf 73 = .ok (.iaload, 1) := by decide +kernel
theorem dX9_valueOf_74 : decode cX9_valueOf 74 = .ok (.irem, 1) := by decide +kernel
theorem dX9_valueOf_75 : decode cX9_valueOf 75 = .ok (.goto 4, 3) := by decide +kernel
theorem dX9_valueOf_78 : decode cX9_valueOf 78 = .ok (.iconst 0, 1) := by decide +kernel
theorem dX9_valueOf_79 : decode cX9_valueOf 79 = .ok (.ireturn, 1) := by decide +kernel
theorem dX9_armsOf_0 : decode cX9_armsOf 0 = .ok (.iconst 1, 1) := by decide +kernel
theorem dX9_armsOf_1 : decode cX9_armsOf 1 = .ok (.aload_n 0, 1) := by decide +kernel
theorem dX9_armsOf_2 : decode cX9_armsOf 2 = .ok (.getfield 46, 3) := by decide +kernel
theorem dX9_armsOf_5 : decode cX9_armsOf 5 = .ok (.ishl, 1) := by decide +kernel
theorem dX9_armsOf_6 : decode cX9_armsOf 6 = .ok (.iconst 1, 1) := by decide +kernel
theorem dX9_armsOf_7 : decode cX9_armsOf 7 = .ok (.isub, 1) := by decide +kernel
theorem dX9_armsOf_8 : decode cX9_armsOf 8 = .ok (.istore_n 2, 1) := by decide +kernel
theorem dX9_armsOf_9 : decode cX9_armsOf 9 = .ok (.iload_n 1, 1) := by decide +kernel
theorem dX9_armsOf_10 : decode cX9_armsOf 10 = .ok (.istore_n 3, 1) := by decide +kernel
theorem dX9_armsOf_11 : decode cX9_armsOf 11 = .ok (.aload_n 0, 1) := by decide +kernel
theorem dX9_armsOf_12 : decode cX9_armsOf 12 = .ok (.getfield 39, 3) := by decide +kernel
theorem dX9_armsOf_15 : decode cX9_armsOf 15 = .ok (.iconst 1, 1) := by decide +kernel
theorem dX9_armsOf_16 : decode cX9_armsOf 16 = .ok (.isub, 1) := by decide +kernel
theorem dX9_armsOf_17 : decode cX9_armsOf 17 = .ok (.istore 4, 2) := by decide +kernel
theorem dX9_armsOf_19 : decode cX9_armsOf 19 = .ok (.iload 4, 2) := by decide +kernel
theorem dX9_armsOf_21 : decode cX9_armsOf 21 = .ok (.ifCond .lt 40, 3) := by decide +kernel
theorem dX9_armsOf_24 : decode cX9_armsOf 24 = .ok (.aload_n 0, 1) := by decide +kernel
theorem dX9_armsOf_25 : decode cX9_armsOf 25 = .ok (.getfield 22, 3) := by decide +kernel
theorem dX9_armsOf_28 : decode cX9_armsOf 28 = .ok (.iload 4, 2) := by decide +kernel
theorem dX9_armsOf_30 : decode cX9_armsOf 30 = .ok (.iaload, 1) := by decide +kernel
theorem dX9_armsOf_31 : decode cX9_armsOf 31 = .ok (.iconst 1, 1) := by decide +kernel
theorem dX9_armsOf_32 : decode cX9_armsOf 32 = .ok (.invokestatic 59, 3) := by decide +kernel
theorem dX9_armsOf_35 : decode cX9_armsOf 35 = .ok (.istore 5, 2) := by decide +kernel
theorem dX9_armsOf_37 : decode cX9_armsOf 37 = .ok (.iload_n 2, 1) := by decide +kernel
theorem dX9_armsOf_38 : decode cX9_armsOf 38 = .ok (.aload_n 0, 1) := by decide +kernel
theorem dX9_armsOf_39 : decode cX9_armsOf 39 = .ok (.iload 4, 2) := by decide +kernel
theorem dX9_armsOf_41 : decode cX9_armsOf 41 = .ok (.iload_n 3, 1) := by decide +kernel
theorem dX9_armsOf_42 : decode cX9_armsOf 42 = .ok (.iload 5, 2) := by decide +kernel
theorem dX9_armsOf_44 : decode cX9_armsOf 44 = .ok (.irem, 1) := by decide +kernel
theorem dX9_armsOf_45 : decode cX9_armsOf 45 = .ok (.invokevirtual 65, 3) := by decide +kernel
theorem dX9_armsOf_48 : decode cX9_armsOf 48 = .ok (.iand, 1) := by decide +kernel
theorem dX9_armsOf_49 : decode cX9_armsOf 49 = .ok (.istore_n 2, 1) := by decide +kernel
theorem dX9_armsOf_50 : decode cX9_armsOf 50 = .ok (.iload_n 3, 1) := by decide +kernel
theorem dX9_armsOf_51 : decode cX9_armsOf 51 = .ok (.iload 5, 2) := by decide +kernel
theorem dX9_armsOf_53 : decode cX9_armsOf 53 = .ok (.idiv, 1) := by decide +kernel
theorem dX9_armsOf_54 : decode cX9_armsOf 54 = .ok (.istore_n 3, 1) := by decide +kernel
theorem dX9_armsOf_55 : decode cX9_armsOf 55 = .ok (.iinc 4 (-1), 3) := by decide +kernel
theorem dX9_armsOf_58 : decode cX9_armsOf 58 = .ok (.goto (-39), 3) := by decide +kernel
theorem dX9_armsOf_61 : decode cX9_armsOf 61 = .ok (.iload_n 2, 1) := by decide +kernel
theorem dX9_armsOf_62 : decode cX9_armsOf 62 = .ok (.ireturn, 1) := by decide +kernel
theorem dX10_init_0 : decode cX10_init 0 = .ok (.aload_n 0, 1) := by decide +kernel
theorem dX10_init_1 : decode cX10_init 1 = .ok (.invokespecial 3, 3) := by decide +kernel
theorem dX10_init_4 : decode cX10_init 4 = .ok (.aload_n 0, 1) := by decide +kernel
theorem dX10_init_5 : decode cX10_init 5 = .ok (.iconst 4, 1) := by decide +kernel
theorem dX10_init_6 : decode cX10_init 6 = .ok (.anewarray 9, 3) := by decide +kernel
theorem dX10_init_9 : decode cX10_init 9 = .ok (.putfield 11, 3) := by decide +kernel
theorem dX10_init_12 : decode cX10_init 12 = .ok (.aload_n 0, 1) := by decide +kernel
theorem dX10_init_13 : decode cX10_init 13 = .ok (.iconst 4, 1) := by decide +kernel
theorem dX10_init_14 : decode cX10_init 14 = .ok (.anewarray 9, 3) := by decide +kernel
theorem dX10_init_17 : decode cX10_init 17 = .ok (.putfield 17, 3) := by decide +kernel
theorem dX10_init_20 : decode cX10_init 20 = .ok (.aload_n 0, 1) := by decide +kernel
theorem dX10_init_21 : decode cX10_init 21 = .ok (.ldc 20, 2) := by decide +kernel
theorem dX10_init_23 : decode cX10_init 23 = .ok (.newarray .long, 2) := by decide +kernel
theorem dX10_init_25 : decode cX10_init 25 = .ok (.putfield 21, 3) := by decide +kernel
theorem dX10_init_28 : decode cX10_init 28 = .ok (.aload_n 0, 1) := by decide +kernel
theorem dX10_init_29 : decode cX10_init 29 = .ok (.sipush 999, 3) := by decide +kernel
theorem dX10_init_32 : decode cX10_init 32 = .ok (.newarray .int, 2) := by decide +kernel
theorem dX10_init_34 : decode cX10_init 34 = .ok (.putfield 25, 3) := by decide +kernel
theorem dX10_init_37 : decode cX10_init 37 = .ok (.aload_n 0, 1) := by decide +kernel
theorem dX10_init_38 : decode cX10_init 38 = .ok (.aload_n 1, 1) := by decide +kernel
theorem dX10_init_39 : decode cX10_init 39 = .ok (.putfield 29, 3) := by decide +kernel
theorem dX10_init_42 : decode cX10_init 42 = .ok (.aload_n 0, 1) := by decide +kernel
theorem dX10_init_43 : decode cX10_init 43 = .ok (.aload_n 2, 1) := by decide +kernel
theorem dX10_init_44 : decode cX10_init 44 = .ok (.putfield 33, 3) := by decide +kernel
theorem dX10_init_47 : decode cX10_init 47 = .ok (.aload_n 0, 1) := by decide +kernel
theorem dX10_init_48 : decode cX10_init 48 = .ok (.aload_n 3, 1) := by decide +kernel
theorem dX10_init_49 : decode cX10_init 49 = .ok (.putfield 37, 3) := by decide +kernel
theorem dX10_init_52 : decode cX10_init 52 = .ok (.iconst 0, 1) := by decide +kernel
theorem dX10_init_53 : decode cX10_init 53 = .ok (.istore 4, 2) := by decide +kernel
theorem dX10_init_55 : decode cX10_init 55 = .ok (.iload 4, 2) := by decide +kernel
theorem dX10_init_57 : decode cX10_init 57 = .ok (.iconst 4, 1) := by decide +kernel
theorem dX10_init_58 : decode cX10_init 58 = .ok (.if_icmp .ge 45, 3) := by decide +kernel
theorem dX10_init_61 : decode cX10_init 61 = .ok (.aload_n 0, 1) := by decide +kernel
theorem dX10_init_62 : decode cX10_init 62 = .ok (.getfield 11, 3) := by decide +kernel
theorem dX10_init_65 : decode cX10_init 65 = .ok (.iload 4, 2) := by decide +kernel
theorem dX10_init_67 : decode cX10_init 67 = .ok (.new 9, 3) := by decide +kernel
theorem dX10_init_70 : decode cX10_init 70 = .ok (.dup, 1) := by decide +kernel
theorem dX10_init_71 : decode cX10_init 71 = .ok (.sipush 2048, 3) := by decide +kernel
theorem dX10_init_74 : decode cX10_init 74 = .ok (.aload_n 3, 1) := by decide +kernel
theorem dX10_init_75 : decode cX10_init 75 = .ok (.invokespecial 41, 3) := by decide +kernel
theorem dX10_init_78 : decode cX10_init 78 = .ok (.aastore, 1) := by decide +kernel
theorem dX10_init_79 : decode cX10_init 79 = .ok (.aload_n 0, 1) := by decide +kernel
theorem dX10_init_80 : decode cX10_init 80 = .ok (.getfield 17, 3) := by decide +kernel
theorem dX10_init_83 : decode cX10_init 83 = .ok (.iload 4, 2) := by decide +kernel
theorem dX10_init_85 : decode cX10_init 85 = .ok (.new 9, 3) := by decide +kernel
theorem dX10_init_88 : decode cX10_init 88 = .ok (.dup, 1) := by decide +kernel
theorem dX10_init_89 : decode cX10_init 89 = .ok (.sipush 2048, 3) := by decide +kernel
theorem dX10_init_92 : decode cX10_init 92 = .ok (.aload_n 3, 1) := by decide +kernel
theorem dX10_init_93 : decode cX10_init 93 = .ok (.invokespecial 41, 3) := by decide +kernel
theorem dX10_init_96 : decode cX10_init 96 = .ok (.aastore, 1) := by decide +kernel
theorem dX10_init_97 : decode cX10_init 97 = .ok (.iinc 4 1, 3) := by decide +kernel
theorem dX10_init_100 : decode cX10_init 100 = .ok (.goto (-45), 3) := by decide +kernel
theorem dX10_init_103 : decode cX10_init 103 = .ok (.return_, 1) := by decide +kernel
theorem dX10_setTable_0 : decode cX10_setTable 0 = .ok (.aload_n 0, 1) := by decide +kernel
theorem dX10_setTable_1 : decode cX10_setTable 1 = .ok (.aload_n 1, 1) := by decide +kernel
theorem dX10_setTable_2 : decode cX10_setTable 2 = .ok (.putfield 29, 3) := by decide +kernel
theorem dX10_setTable_5 : decode cX10_setTable 5 = .ok (.iconst 0, 1) := by decide +kernel
theorem dX10_setTable_6 : decode cX10_setTable 6 = .ok (.istore_n 2, 1) := by decide +kernel
theorem dX10_setTable_7 : decode cX10_setTable 7 = .ok (.iload_n 2, 1) := by decide +kernel
theorem dX10_setTable_8 : decode cX10_setTable 8 = .ok (.aload_n 0, 1) := by decide +kernel
theorem dX10_setTable_9 : decode cX10_setTable 9 = .ok (.getfield 29, 3) := by decide +kernel
theorem dX10_setTable_12 : decode cX10_setTable 12 = .ok (.getfield 44, 3) := by decide +kernel
theorem dX10_setTable_15 : decode cX10_setTable 15 = .ok (.if_icmp .ge 63, 3) := by decide +kernel
theorem dX10_setTable_18 : decode cX10_setTable 18 = .ok (.iload_n 2, 1) := by decide +kernel
theorem dX10_setTable_19 : decode cX10_setTable 19 = .ok (.iconst 4, 1) := by decide +kernel
theorem dX10_setTable_20 : decode cX10_setTable 20 = .ok (.if_icmp .ge 58, 3) := by decide +kernel
theorem dX10_setTable_23 : decode cX10_setTable 23 = .ok (.aload_n 0, 1) := by decide +kernel
theorem dX10_setTable_24 : decode cX10_setTable 24 = .ok (.getfield 11, 3) := by decide +kernel
theorem dX10_setTable_27 : decode cX10_setTable 27 = .ok (.iload_n 2, 1) := by decide +kernel
theorem dX10_setTable_28 : decode cX10_setTable 28 = .ok (.aaload, 1) := by decide +kernel
theorem dX10_setTable_29 : decode cX10_setTable 29 = .ok (.invokevirtual 50, 3) := by decide +kernel
theorem dX10_setTable_32 : decode cX10_setTable 32 = .ok (.iconst 0, 1) := by decide +kernel
theorem dX10_setTable_33 : decode cX10_setTable 33 = .ok (.istore_n 3, 1) := by decide +kernel
theorem dX10_setTable_34 : decode cX10_setTable 34 = .ok (.iload_n 3, 1) := by decide +kernel
theorem dX10_setTable_35 : decode cX10_setTable 35 = .ok (.aload_n 0, 1) := by decide +kernel
theorem dX10_setTable_36 : decode cX10_setTable 36 = .ok (.getfield 29, 3) := by decide +kernel
theorem dX10_setTable_39 : decode cX10_setTable 39 = .ok (.getfield 53, 3) := by decide +kernel
theorem dX10_setTable_42 : decode cX10_setTable 42 = .ok (.iload_n 2, 1) := by decide +kernel
theorem dX10_setTable_43 : decode cX10_setTable 43 = .ok (.iaload, 1) := by decide +kernel
theorem dX10_setTable_44 : decode cX10_setTable 44 = .ok (.if_icmp .ge 28, 3) := by decide +kernel
theorem dX10_setTable_47 : decode cX10_setTable 47 = .ok (.aload_n 0, 1) := by decide +kernel
theorem dX10_setTable_48 : decode cX10_setTable 48 = .ok (.getfield 11, 3) := by decide +kernel
theorem dX10_setTable_51 : decode cX10_setTable 51 = .ok (.iload_n 2, 1) := by decide +kernel
theorem dX10_setTable_52 : decode cX10_setTable 52 = .ok (.aaload, 1) := by decide +kernel
theorem dX10_setTable_53 : decode cX10_setTable 53 = .ok (.aload_n 0, 1) := by decide +kernel
theorem dX10_setTable_54 : decode cX10_setTable 54 = .ok (.getfield 29, 3) := by decide +kernel
