theorem dX10_setTable_57 : decode cX10_setTable 57 = .ok (.iload_n 2, 1) := by decide +kernel
theorem dX10_setTable_58 : decode cX10_setTable 58 = .ok (.iload_n 3, 1) := by decide +kernel
theorem dX10_setTable_59 : decode cX10_setTable 59 = .ok (.invokevirtual 56, 3) := by decide +kernel
theorem dX10_setTable_62 : decode cX10_setTable 62 = .ok (.iconst 1, 1) := by decide +kernel
theorem dX10_setTable_63 : decode cX10_setTable 63 = .ok (.invokevirtual 60, 3) := by decide +kernel
theorem dX10_setTable_66 : decode cX10_setTable 66 = .ok (.iinc 3 1, 3) := by decide +kernel
theorem dX10_setTable_69 : decode cX10_setTable 69 = .ok (.goto (-35), 3) := by decide +kernel
theorem dX10_setTable_72 : decode cX10_setTable 72 = .ok (.iinc 2 1, 3) := by decide +kernel
theorem dX10_setTable_75 : decode cX10_setTable 75 = .ok (.goto (-68), 3) := by decide +kernel
theorem dX10_setTable_78 : decode cX10_setTable 78 = .ok (.return_, 1) := by decide +kernel
theorem dX10_allColumns_0 : decode cX10_allColumns 0 = .ok (.iconst 1, 1) := by decide +kernel
theorem dX10_allColumns_1 : decode cX10_allColumns 1 = .ok (.aload_n 0, 1) := by decide +kernel
theorem dX10_allColumns_2 : decode cX10_allColumns 2 = .ok (.getfield 29, 3) := by decide +kernel
theorem dX10_allColumns_5 : decode cX10_allColumns 5 = .ok (.getfield 44, 3) := by decide +kernel
theorem dX10_allColumns_8 : decode cX10_allColumns 8 = .ok (.ishl, 1) := by decide +kernel
theorem dX10_allColumns_9 : decode cX10_allColumns 9 = .ok (.iconst 1, 1) := by decide +kernel
theorem dX10_allColumns_10 : decode cX10_allColumns 10 = .ok (.isub, 1) := by decide +kernel
theorem dX10_allColumns_11 : decode cX10_allColumns 11 = .ok (.ireturn, 1) := by decide +kernel
theorem dX10_columnAsked_0 : decode cX10_columnAsked 0 = .ok (.aload_n 0, 1) := by decide +kernel
theorem dX10_columnAsked_1 : decode cX10_columnAsked 1 = .ok (.getfield 33, 3) := by decide +kernel
theorem dX10_columnAsked_4 : decode cX10_columnAsked 4 = .ok (.iload_n 1, 1) := by decide +kernel
theorem dX10_columnAsked_5 : decode cX10_columnAsked 5 = .ok (.invokevirtual 64, 3) := by decide +kernel
theorem dX10_columnAsked_8 : decode cX10_columnAsked 8 = .ok (.istore_n 3, 1) := by decide +kernel
theorem dX10_columnAsked_9 : decode cX10_columnAsked 9 = .ok (.iconst (-1), 1) := by decide +kernel
theorem dX10_columnAsked_10 : decode cX10_columnAsked 10 = .ok (.istore 4, 2) := by decide +kernel
theorem dX10_columnAsked_12 : decode cX10_columnAsked 12 = .ok (.iconst 0, 1) := by decide +kernel
theorem dX10_columnAsked_13 : decode cX10_columnAsked 13 = .ok (.istore 5, 2) := by decide +kernel
theorem dX10_columnAsked_15 : decode cX10_columnAsked 15 = .ok (.iconst 0, 1) := by decide +kernel
theorem dX10_columnAsked_16 : decode cX10_columnAsked 16 = .ok (.istore 6, 2) := by decide +kernel
theorem dX10_columnAsked_18 : decode cX10_columnAsked 18 = .ok (.iload_n 3, 1) := by decide +kernel
theorem dX10_columnAsked_19 : decode cX10_columnAsked 19 = .ok (.iconst (-1), 1) := by decide +kernel
theorem dX10_columnAsked_20 : decode cX10_columnAsked 20 = .ok (.if_icmp .eq 77, 3) := by decide +kernel
theorem dX10_columnAsked_23 : decode cX10_columnAsked 23 = .ok (.iload 6, 2) := by decide +kernel
theorem dX10_columnAsked_25 : decode cX10_columnAsked 25 = .ok (.aload_n 0, 1) := by decide +kernel
theorem dX10_columnAsked_26 : decode cX10_columnAsked 26 = .ok (.getfield 29, 3) := by decide +kernel
theorem dX10_columnAsked_29 : decode cX10_columnAsked 29 = .ok (.getfield 44, 3) := by decide +kernel
theorem dX10_columnAsked_32 : decode cX10_columnAsked 32 = .ok (.if_icmp .ge 65, 3) := by decide +kernel
theorem dX10_columnAsked_35 : decode cX10_columnAsked 35 = .ok (.iload_n 2, 1) := by decide +kernel
theorem dX10_columnAsked_36 : decode cX10_columnAsked 36 = .ok (.iload 6, 2) := by decide +kernel
theorem dX10_columnAsked_38 : decode cX10_columnAsked 38 = .ok (.invokestatic 70, 3) := by decide +kernel
theorem dX10_columnAsked_41 : decode cX10_columnAsked 41 = .ok (.ifCond .eq 50, 3) := by decide +kernel
theorem dX10_columnAsked_44 : decode cX10_columnAsked 44 = .ok (.aload_n 0, 1) := by decide +kernel
theorem dX10_columnAsked_45 : decode cX10_columnAsked 45 = .ok (.getfield 29, 3) := by decide +kernel
theorem dX10_columnAsked_48 : decode cX10_columnAsked 48 = .ok (.getfield 74, 3) := by decide +kernel
theorem dX10_columnAsked_51 : decode cX10_columnAsked 51 = .ok (.iload 6, 2) := by decide +kernel
theorem dX10_columnAsked_53 : decode cX10_columnAsked 53 = .ok (.iaload, 1) := by decide +kernel
theorem dX10_columnAsked_54 : decode cX10_columnAsked 54 = .ok (.iload_n 3, 1) := by decide +kernel
theorem dX10_columnAsked_55 : decode cX10_columnAsked 55 = .ok (.invokestatic 70, 3) := by decide +kernel
theorem dX10_columnAsked_58 : decode cX10_columnAsked 58 = .ok (.ifCond .ne 33, 3) := by decide +kernel
theorem dX10_columnAsked_61 : decode cX10_columnAsked 61 = .ok (.aload_n 0, 1) := by decide +kernel
theorem dX10_columnAsked_62 : decode cX10_columnAsked 62 = .ok (.iload_n 1, 1) := by decide +kernel
theorem dX10_columnAsked_63 : decode cX10_columnAsked 63 = .ok (.iload 6, 2) := by decide +kernel
theorem dX10_columnAsked_65 : decode cX10_columnAsked 65 = .ok (.invokevirtual 77, 3) := by decide +kernel
theorem dX10_columnAsked_68 : decode cX10_columnAsked 68 = .ok (.istore 7, 2) := by decide +kernel
theorem dX10_columnAsked_70 : decode cX10_columnAsked 70 = .ok (.iload 4, 2) := by decide +kernel
theorem dX10_columnAsked_72 : decode cX10_columnAsked 72 = .ok (.iconst (-1), 1) := by decide +kernel
theorem dX10_columnAsked_73 : decode cX10_columnAsked 73 = .ok (.if_icmp .eq 10, 3) := by decide +kernel
theorem dX10_columnAsked_76 : decode cX10_columnAsked 76 = .ok (.iload 7, 2) := by decide +kernel
theorem dX10_columnAsked_78 : decode cX10_columnAsked 78 = .ok (.iload 5, 2) := by decide +kernel
theorem dX10_columnAsked_80 : decode cX10_columnAsked 80 = .ok (.if_icmp .ge 11, 3) := by decide +kernel
theorem dX10_columnAsked_83 : decode cX10_columnAsked 83 = .ok (.iload 6, 2) := by decide +kernel
theorem dX10_columnAsked_85 : decode cX10_columnAsked 85 = .ok (.istore 4, 2) := by decide +kernel
theorem dX10_columnAsked_87 : decode cX10_columnAsked 87 = .ok (.iload 7, 2) := by decide +kernel
theorem dX10_columnAsked_89 : decode cX10_columnAsked 89 = .ok (.istore 5, 2) := by decide +kernel
theorem dX10_columnAsked_91 : decode cX10_columnAsked 91 = .ok (.iinc 6 1, 3) := by decide +kernel
theorem dX10_columnAsked_94 : decode cX10_columnAsked 94 = .ok (.goto (-76), 3) := by decide +kernel
theorem dX10_columnAsked_97 : decode cX10_columnAsked 97 = .ok (.iload 4, 2) := by decide +kernel
theorem dX10_columnAsked_99 : decode cX10_columnAsked 99 = .ok (.ireturn, 1) := by decide +kernel
theorem dX10_costOf_0 : decode cX10_costOf 0 = .ok (.aload_n 0, 1) := by decide +kernel
theorem dX10_costOf_1 : decode cX10_costOf 1 = .ok (.getfield 80, 3) := by decide +kernel
theorem dX10_costOf_4 : decode cX10_costOf 4 = .ok (.tableswitch 50 1 3 #[28, 36, 43], 28) := by decide +kernel
theorem dX10_costOf_32 : decode cX10_costOf 32 = .ok (.aload_n 0, 1) := by decide +kernel
theorem dX10_costOf_33 : decode cX10_costOf 33 = .ok (.iload_n 1, 1) := by decide +kernel
theorem dX10_costOf_34 : decode cX10_costOf 34 = .ok (.iload_n 2, 1) := by decide +kernel
theorem dX10_costOf_35 : decode cX10_costOf 35 = .ok (.invokevirtual 83, 3) := by decide +kernel
theorem dX10_costOf_38 : decode cX10_costOf 38 = .ok (.ineg, 1) := by decide +kernel
theorem dX10_costOf_39 : decode cX10_costOf 39 = .ok (.ireturn, 1) := by decide +kernel
theorem dX10_costOf_40 : decode cX10_costOf 40 = .ok (.aload_n 0, 1) := by decide +kernel
theorem dX10_costOf_41 : decode cX10_costOf 41 = .ok (.iload_n 1, 1) := by decide +kernel
theorem dX10_costOf_42 : decode cX10_costOf 42 = .ok (.iload_n 2, 1) := by decide +kernel
theorem dX10_costOf_43 : decode cX10_costOf 43 = .ok (.invokevirtual 86, 3) := by decide +kernel
theorem dX10_costOf_46 : decode cX10_costOf 46 = .ok (.ireturn, 1) := by decide +kernel
theorem dX10_costOf_47 : decode cX10_costOf 47 = .ok (.aload_n 0, 1) := by decide +kernel
theorem dX10_costOf_48 : decode cX10_costOf 48 = .ok (.iload_n 1, 1) := by decide +kernel
theorem dX10_costOf_49 : decode cX10_costOf 49 = .ok (.iload_n 2, 1) := by decide +kernel
theorem dX10_costOf_50 : decode cX10_costOf 50 = .ok (.invokevirtual 89, 3) := by decide +kernel
theorem dX10_costOf_53 : decode cX10_costOf 53 = .ok (.ireturn, 1) := by decide +kernel
theorem dX10_costOf_54 : decode cX10_costOf 54 = .ok (.iconst 0, 1) := by decide +kernel
theorem dX10_costOf_55 : decode cX10_costOf 55 = .ok (.ireturn, 1) := by decide +kernel
theorem dX10_notFullInRow_0 : decode cX10_notFullInRow 0 = .ok (.iconst 0, 1) := by decide +kernel
theorem dX10_notFullInRow_1 : decode cX10_notFullInRow 1 = .ok (.istore_n 3, 1) := by decide +kernel
theorem dX10_notFullInRow_2 : decode cX10_notFullInRow 2 = .ok (.iconst 0, 1) := by decide +kernel
theorem dX10_notFullInRow_3 : decode cX10_notFullInRow 3 = .ok (.istore 4, 2) := by decide +kernel
theorem dX10_notFullInRow_5 : decode cX10_notFullInRow 5 = .ok (.iload 4, 2) := by decide +kernel
theorem dX10_notFullInRow_7 : decode cX10_notFullInRow 7 = .ok (.aload_n 0, 1) := by decide +kernel
theorem dX10_notFullInRow_8 : decode cX10_notFullInRow 8 = .ok (.getfield 33, 3) := by decide +kernel
theorem dX10_notFullInRow_11 : decode cX10_notFullInRow 11 = .ok (.getfield 92, 3) := by decide +kernel
theorem dX10_notFullInRow_14 : decode cX10_notFullInRow 14 = .ok (.if_icmp .ge 52, 3) := by decide +kernel
theorem dX10_notFullInRow_17 : decode cX10_notFullInRow 17 = .ok (.aload_n 0, 1) := by decide +kernel
theorem dX10_notFullInRow_18 : decode cX10_notFullInRow 18 = .ok (.getfield 33, 3) := by decide +kernel
theorem dX10_notFullInRow_21 : decode cX10_notFullInRow 21 = .ok (.getfield 95, 3) := by decide +kernel
theorem dX10_notFullInRow_24 : decode cX10_notFullInRow 24 = .ok (.iload 4, 2) := by decide +kernel
theorem dX10_notFullInRow_26 : decode cX10_notFullInRow 26 = .ok (.iaload, 1) := by decide +kernel
theorem dX10_notFullInRow_27 : decode cX10_notFullInRow 27 = .ok (.istore 5, 2) := by decide +kernel
theorem dX10_notFullInRow_29 : decode cX10_notFullInRow 29 = .ok (.iload_n 1, 1) := by decide +kernel
theorem dX10_notFullInRow_30 : decode cX10_notFullInRow 30 = .ok (.iload 5, 2) := by decide +kernel
theorem dX10_notFullInRow_32 : decode cX10_notFullInRow 32 = .ok (.invokestatic 70, 3) := by decide +kernel
theorem dX10_notFullInRow_35 : decode cX10_notFullInRow 35 = .ok (.ifCond .eq 25, 3) := by decide +kernel
theorem dX10_notFullInRow_38 : decode cX10_notFullInRow 38 = .ok (.aload_n 0, 1) := by decide +kernel
theorem dX10_notFullInRow_39 : decode cX10_notFullInRow 39 = .ok (.getfield 29, 3) := by decide +kernel
theorem dX10_notFullInRow_42 : decode cX10_notFullInRow 42 = .ok (.getfield 74, 3) := by decide +kernel
theorem dX10_notFullInRow_45 : decode cX10_notFullInRow 45 = .ok (.iload_n 2, 1) := by decide +kernel
theorem dX10_notFullInRow_46 : decode cX10_notFullInRow 46 = .ok (.iaload, 1) := by decide +kernel
theorem dX10_notFullInRow_47 : decode cX10_notFullInRow 47 = .ok (.iload 5, 2) := by decide +kernel
theorem dX10_notFullInRow_49 : decode cX10_notFullInRow 49 = .ok (.invokestatic 70, 3) := by decide +kernel
theorem dX10_notFullInRow_52 : decode cX10_notFullInRow 52 = .ok (.ifCond .eq 5, 3) := by decide +kernel
theorem dX10_notFullInRow_55 : decode cX10_notFullInRow 55 = .ok (.iload_n 3, 1) := by decide +kernel
theorem dX10_notFullInRow_56 : decode cX10_notFullInRow 56 = .ok (.ireturn, 1) := by decide +kernel
theorem dX10_notFullInRow_57 : decode cX10_notFullInRow 57 = .ok (.iinc 3 1, 3) := by decide +kernel
theorem dX10_notFullInRow_60 : decode cX10_notFullInRow 60 = .ok (.iinc 4 1, 3) := by decide +kernel
theorem dX10_notFullInRow_63 : decode cX10_notFullInRow 63 = .ok (.goto (-58), 3) := by decide +kernel
theorem dX10_notFullInRow_66 : decode cX10_notFullInRow 66 = .ok (.iload_n 3, 1) := by decide +kernel
theorem dX10_notFullInRow_67 : decode cX10_notFullInRow 67 = .ok (.ireturn, 1) := by decide +kernel
theorem dX10_countBranches_0 : decode cX10_countBranches 0 = .ok (.iconst 0, 1) := by decide +kernel
theorem dX10_countBranches_1 : decode cX10_countBranches 1 = .ok (.istore_n 3, 1) := by decide +kernel
theorem dX10_countBranches_2 : decode cX10_countBranches 2 = .ok (.aload_n 0, 1) := by decide +kernel
theorem dX10_countBranches_3 : decode cX10_countBranches 3 = .ok (.getfield 37, 3) := by decide +kernel
theorem dX10_countBranches_6 : decode cX10_countBranches 6 = .ok (.invokevirtual 98, 3) := by decide +kernel
theorem dX10_countBranches_9 : decode cX10_countBranches 9 = .ok (.iconst 0, 1) := by decide +kernel
theorem dX10_countBranches_10 : decode cX10_countBranches 10 = .ok (.istore 4, 2) := by decide +kernel
theorem dX10_countBranches_12 : decode cX10_countBranches 12 = .ok (.iload 4, 2) := by decide +kernel
theorem dX10_countBranches_14 : decode cX10_countBranches 14 = .ok (.aload_n 0, 1) := by decide +kernel
theorem dX10_countBranches_15 : decode cX10_countBranches 15 = .ok (.getfield 11, 3) := by decide +kernel
theorem dX10_countBranches_18 : decode cX10_countBranches 18 = .ok (.iload_n 2, 1) := by decide +kernel
theorem dX10_countBranches_19 : decode cX10_countBranches 19 = .ok (.aaload, 1) := by decide +kernel
theorem dX10_countBranches_20 : decode cX10_countBranches 20 = .ok (.getfield 103, 3) := by decide +kernel
theorem dX10_countBranches_23 : decode cX10_countBranches 23 = .ok (.if_icmp .ge 36, 3) := by decide +kernel
theorem dX10_countBranches_26 : decode cX10_countBranches 26 = .ok (.aload_n 0, 1) := by decide +kernel
theorem dX10_countBranches_27 : decode cX10_countBranches 27 = .ok (.getfield 37, 3) := by decide +kernel
theorem dX10_countBranches_30 : decode cX10_countBranches 30 = .ok (.aload_n 0, 1) := by decide +kernel
theorem dX10_countBranches_31 : decode cX10_countBranches 31 = .ok (.getfield 11, 3) := by decide +kernel
theorem dX10_countBranches_34 : decode cX10_countBranches 34 = .ok (.iload_n 2, 1) := by decide +kernel
theorem dX10_countBranches_35 : decode cX10_countBranches 35 = .ok (.aaload, 1) := by decide +kernel
theorem dX10_countBranches_36 : decode cX10_countBranches 36 = .ok (.getfield 104, 3) := by decide +kernel
theorem dX10_countBranches_39 : decode cX10_countBranches 39 = .ok (.iload 4, 2) := by decide +kernel
theorem dX10_countBranches_41 : decode cX10_countBranches 41 = .ok (.iaload, 1) := by decide +kernel
theorem dX10_countBranches_42 : decode cX10_countBranches 42 = .ok (.iload_n 1, 1) := by decide +kernel
theorem dX10_countBranches_43 : decode cX10_countBranches 43 = .ok (.iand, 1) := by decide +kernel
theorem dX10_countBranches_44 : decode cX10_countBranches 44 = .ok (.invokevirtual 107, 3) := by decide +kernel
theorem dX10_countBranches_47 : decode cX10_countBranches 47 = .ok (.ifCond .eq 6, 3) := by decide +kernel
theorem dX10_countBranches_50 : decode cX10_countBranches 50 = .ok (.iinc 3 1, 3) := by decide +kernel
theorem dX10_countBranches_53 : decode cX10_countBranches 53 = .ok (.iinc 4 1, 3) := by decide +kernel
theorem dX10_countBranches_56 : decode cX10_countBranches 56 = .ok (.goto (-44), 3) := by decide +kernel
theorem dX10_countBranches_59 : decode cX10_countBranches 59 = .ok (.iload_n 3, 1) := by decide +kernel
theorem dX10_countBranches_60 : decode cX10_countBranches 60 = .ok (.ireturn, 1) := by decide +kernel
theorem dX10_mostArms_0 : decode cX10_mostArms 0 = .ok (.iconst 0, 1) := by decide +kernel
theorem dX10_mostArms_1 : decode cX10_mostArms 1 = .ok (.istore_n 3, 1) := by decide +kernel
theorem dX10_mostArms_2 : decode cX10_mostArms 2 = .ok (.iconst 0, 1) := by decide +kernel
theorem dX10_mostArms_3 : decode cX10_mostArms 3 = .ok (.istore 4, 2) := by decide +kernel
theorem dX10_mostArms_5 : decode cX10_mostArms 5 = .ok (.iload 4, 2) := by decide +kernel
theorem dX10_mostArms_7 : decode cX10_mostArms 7 = .ok (.aload_n 0, 1) := by decide +kernel
theorem dX10_mostArms_8 : decode cX10_mostArms 8 = .ok (.getfield 11, 3) := by decide +kernel
theorem dX10_mostArms_11 : decode cX10_mostArms 11 = .ok (.iload_n 2, 1) := by decide +kernel
theorem dX10_mostArms_12 : decode cX10_mostArms 12 = .ok (.aaload, 1) := by decide +kernel
theorem dX10_mostArms_13 : decode cX10_mostArms 13 = .ok (.getfield 103, 3) := by decide +kernel
theorem dX10_mostArms_16 : decode cX10_mostArms 16 = .ok (.if_icmp .ge 31, 3) := by decide +kernel
theorem dX10_mostArms_19 : decode cX10_mostArms 19 = .ok (.iload_n 3, 1) := by decide +kernel
theorem dX10_mostArms_20 : decode cX10_mostArms 20 = .ok (.aload_n 0, 1) := by decide +kernel
theorem dX10_mostArms_21 : decode cX10_mostArms 21 = .ok (.getfield 11, 3) := by decide +kernel
theorem dX10_mostArms_24 : decode cX10_mostArms 24 = .ok (.iload_n 2, 1) := by decide +kernel
theorem dX10_mostArms_25 : decode cX10_mostArms 25 = .ok (.aaload, 1) := by decide +kernel
theorem dX10_mostArms_26 : decode cX10_mostArms 26 = .ok (.getfield 104, 3) := by decide +kernel
theorem dX10_mostArms_29 : decode cX10_mostArms 29 = .ok (.iload 4, 2) := by decide +kernel
theorem dX10_mostArms_31 : decode cX10_mostArms 31 = .ok (.iaload, 1) := by decide +kernel
theorem dX10_mostArms_32 : decode cX10_mostArms 32 = .ok (.iload_n 1, 1) := by decide +kernel
theorem dX10_mostArms_33 : decode cX10_mostArms 33 = .ok (.iand, 1) := by decide +kernel
theorem dX10_mostArms_34 : decode cX10_mostArms 34 = .ok (.invokestatic 111, 3) := by decide +kernel
theorem dX10_mostArms_37 : decode cX10_mostArms 37 = .ok (.invokestatic 116, 3) := by decide +kernel
theorem dX10_mostArms_40 : decode cX10_mostArms 40 = .ok (.istore_n 3, 1) := by decide +kernel
theorem dX10_mostArms_41 : decode cX10_mostArms 41 = .ok (.iinc 4 1, 3) := by decide +kernel
theorem dX10_mostArms_44 : decode cX10_mostArms 44 = .ok (.goto (-39), 3) := by decide +kernel
theorem dX10_mostArms_47 : decode cX10_mostArms 47 = .ok (.iload_n 3, 1) := by decide +kernel
theorem dX10_mostArms_48 : decode cX10_mostArms 48 = .ok (.ireturn, 1) := by decide +kernel
theorem dX10_split_0 : decode cX10_split 0 = .ok (.iload_n 2, 1) := by decide +kernel
theorem dX10_split_1 : decode cX10_split 1 = .ok (.invokestatic 111, 3) := by decide +kernel
theorem dX10_split_4 : decode cX10_split 4 = .ok (.iconst 1, 1) := by decide +kernel
theorem dX10_split_5 : decode cX10_split 5 = .ok (.isub, 1) := by decide +kernel
theorem dX10_split_6 : decode cX10_split 6 = .ok (.istore 4, 2) := by decide +kernel
theorem dX10_split_8 : decode cX10_split 8 = .ok (.aload_n 0, 1) := by decide +kernel
theorem dX10_split_9 : decode cX10_split 9 = .ok (.getfield 17, 3) := by decide +kernel
theorem dX10_split_12 : decode cX10_split 12 = .ok (.iconst 0, 1) := by decide +kernel
theorem dX10_split_13 : decode cX10_split 13 = .ok (.iload 4, 2) := by decide +kernel
theorem dX10_split_15 : decode cX10_split 15 = .ok (.iconst 3, 1) := by decide +kernel
theorem dX10_split_16 : decode cX10_split 16 = .ok (.invokestatic 121, 3) := by decide +kernel
theorem dX10_split_19 : decode cX10_split 19 = .ok (.invokestatic 116, 3) := by decide +kernel
theorem dX10_split_22 : decode cX10_split 22 = .ok (.aaload, 1) := by decide +kernel
theorem dX10_split_23 : decode cX10_split 23 = .ok (.astore 5, 2) := by decide +kernel
theorem dX10_split_25 : decode cX10_split 25 = .ok (.aload 5, 2) := by decide +kernel
theorem dX10_split_27 : decode cX10_split 27 = .ok (.invokevirtual 50, 3) := by decide +kernel
theorem dX10_split_30 : decode cX10_split 30 = .ok (.aload 5, 2) := by decide +kernel
theorem dX10_split_32 : decode cX10_split 32 = .ok (.aload_n 0, 1) := by decide +kernel
theorem dX10_split_33 : decode cX10_split 33 = .ok (.getfield 11, 3) := by decide +kernel
theorem dX10_split_36 : decode cX10_split 36 = .ok (.iload_n 3, 1) := by decide +kernel
theorem dX10_split_37 : decode cX10_split 37 = .ok (.aaload, 1) := by decide +kernel
theorem dX10_split_38 : decode cX10_split 38 = .ok (.iload_n 1, 1) := by decide +kernel
theorem dX10_split_39 : decode cX10_split 39 = .ok (.invokevirtual 124, 3) := by decide +kernel
theorem dX10_split_42 : decode cX10_split 42 = .ok (.aload 5, 2) := by decide +kernel
theorem dX10_split_44 : decode cX10_split 44 = .ok (.areturn, 1) := by decide +kernel
theorem dX10_rowsOf_0 : decode cX10_rowsOf 0 = .ok (.iconst 1, 1) := by decide +kernel
theorem dX10_rowsOf_1 : decode cX10_rowsOf 1 = .ok (.istore_n 2, 1) := by decide +kernel
theorem dX10_rowsOf_2 : decode cX10_rowsOf 2 = .ok (.iconst 0, 1) := by decide +kernel
theorem dX10_rowsOf_3 : decode cX10_rowsOf 3 = .ok (.istore_n 3, 1) := by decide +kernel
theorem dX10_rowsOf_4 : decode cX10_rowsOf 4 = .ok (.iload_n 3, 1) := by decide +kernel
theorem dX10_rowsOf_5 : decode cX10_rowsOf 5 = .ok (.aload_n 0, 1) := by decide +kernel
theorem dX10_rowsOf_6 : decode cX10_rowsOf 6 = .ok (.getfield 29, 3) := by decide +kernel
theorem dX10_rowsOf_9 : decode cX10_rowsOf 9 = .ok (.getfield 44, 3) := by decide +kernel
theorem dX10_rowsOf_12 : decode cX10_rowsOf 12 = .ok (.if_icmp .ge 29, 3) := by decide +kernel
theorem dX10_rowsOf_15 : decode cX10_rowsOf 15 = .ok (.iload_n 1, 1) := by decide +kernel
theorem dX10_rowsOf_16 : decode cX10_rowsOf 16 = .ok (.iload_n 3, 1) := by decide +kernel
theorem dX10_rowsOf_17 : decode cX10_rowsOf 17 = .ok (.invokestatic 70, 3) := by decide +kernel
theorem dX10_rowsOf_20 : decode cX10_rowsOf 20 = .ok (.ifCond .eq 15, 3) := by decide +kernel
theorem dX10_rowsOf_23 : decode cX10_rowsOf 23 = .ok (.iload_n 2, 1) := by decide +kernel
theorem dX10_rowsOf_24 : decode cX10_rowsOf 24 = .ok (.aload_n 0, 1) := by decide +kernel
theorem dX10_rowsOf_25 : decode cX10_rowsOf 25 = .ok (.getfield 29, 3) := by decide +kernel
theorem dX10_rowsOf_28 : decode cX10_rowsOf 28 = .ok (.getfield 53, 3) := by decide +kernel
theorem dX10_rowsOf_31 : decode cX10_rowsOf 31 = .ok (.iload_n 3, 1) := by decide +kernel
theorem dX10_rowsOf_32 : decode cX10_rowsOf 32 = .ok (.iaload, 1) := by decide +kernel
theorem dX10_rowsOf_33 : decode cX10_rowsOf 33 = .ok (.imul, 1) := by decide +kernel
theorem dX10_rowsOf_34 : decode cX10_rowsOf 34 = .ok (.istore_n 2, 1) := by decide +kernel
theorem dX10_rowsOf_35 : decode cX10_rowsOf 35 = .ok (.iinc 3 1, 3) := by decide +kernel
theorem dX10_rowsOf_38 : decode cX10_rowsOf 38 = .ok (.goto (-34), 3) := by decide +kernel
theorem dX10_rowsOf_41 : decode cX10_rowsOf 41 = .ok (.iload_n 2, 1) := by decide +kernel
theorem dX10_rowsOf_42 : decode cX10_rowsOf 42 = .ok (.ireturn, 1) := by decide +kernel
theorem dX10_measureAll_0 : decode cX10_measureAll 0 = .ok (.aload_n 0, 1) := by decide +kernel
theorem dX10_measureAll_1 : decode cX10_measureAll 1 = .ok (.aload_n 1, 1) := by decide +kernel
theorem dX10_measureAll_2 : decode cX10_measureAll 2 = .ok (.putfield 33, 3) := by decide +kernel
theorem dX10_measureAll_5 : decode cX10_measureAll 5 = .ok (.aload_n 0, 1) := by decide +kernel
theorem dX10_measureAll_6 : decode cX10_measureAll 6 = .ok (.iload_n 2, 1) := by decide +kernel
theorem dX10_measureAll_7 : decode cX10_measureAll 7 = .ok (.putfield 80, 3) := by decide +kernel
theorem dX10_measureAll_10 : decode cX10_measureAll 10 = .ok (.aload_n 0, 1) := by decide +kernel
theorem dX10_measureAll_11 : decode cX10_measureAll 11 = .ok (.dup, 1) := by decide +kernel
theorem dX10_measureAll_12 : decode cX10_measureAll 12 = .ok (.getfield 128, 3) := by decide +kernel
theorem dX10_measureAll_15 : decode cX10_measureAll 15 = .ok (.iconst 1, 1) := by decide +kernel
theorem dX10_measureAll_16 : decode cX10_measureAll 16 = .ok (.iadd, 1) := by decide +kernel
theorem dX10_measureAll_17 : decode cX10_measureAll 17 = .ok (.putfield 128, 3) := by decide +kernel
theorem dX10_measureAll_20 : decode cX10_measureAll 20 = .ok (.aload_n 0, 1) := by decide +kernel
theorem dX10_measureAll_21 : decode cX10_measureAll 21 = .ok (.iconst 0, 1) := by decide +kernel
theorem dX10_measureAll_22 : decode cX10_measureAll 22 = .ok (.putfield 131, 3) := by decide +kernel
theorem dX10_measureAll_25 : decode cX10_measureAll 25 = .ok (.aload_n 0, 1) := by decide +kernel
theorem dX10_measureAll_26 : decode cX10_measureAll 26 = .ok (.aload_n 0, 1) := by decide +kernel
theorem dX10_measureAll_27 : decode cX10_measureAll 27 = .ok (.getfield 33, 3) := by decide +kernel
theorem dX10_measureAll_30 : decode cX10_measureAll 30 = .ok (.invokevirtual 134, 3) := by decide +kernel
theorem dX10_measureAll_33 : decode cX10_measureAll 33 = .ok (.aload_n 0, 1) := by decide +kernel
theorem dX10_measureAll_34 : decode cX10_measureAll 34 = .ok (.invokevirtual 138, 3) := by decide +kernel
theorem dX10_measureAll_37 : decode cX10_measureAll 37 = .ok (.iconst 0, 1) := by decide +kernel
theorem dX10_measureAll_38 : decode cX10_measureAll 38 = .ok (.invokestatic 141, 3) := by decide +kernel
theorem dX10_measureAll_41 : decode cX10_measureAll 41 = .ok (.lreturn, 1) := by decide +kernel
theorem dX10_measure_0 : decode cX10_measure 0 = .ok (.iload_n 2, 1) := by decide +kernel
theorem dX10_measure_1 : decode cX10_measure 1 = .ok (.sipush 4096, 3) := by decide +kernel
theorem dX10_measure_4 : decode cX10_measure 4 = .ok (.imul, 1) := by decide +kernel
theorem dX10_measure_5 : decode cX10_measure 5 = .ok (.iload_n 1, 1) := by decide +kernel
theorem dX10_measure_6 : decode cX10_measure 6 = .ok (.iadd, 1) := by decide +kernel
theorem dX10_measure_7 : decode cX10_measure 7 = .ok (.istore 4, 2) := by decide +kernel
theorem dX10_measure_9 : decode cX10_measure 9 = .ok (.iload 4, 2) := by decide +kernel
theorem dX10_measure_11 : decode cX10_measure 11 = .ok (.ifCond .lt 16, 3) := by decide +kernel
theorem dX10_measure_14 : decode cX10_measure 14 = .ok (.iload 4, 2) := by decide +kernel
theorem dX10_measure_16 : decode cX10_measure 16 = .ok (.ldc 20, 2) := by decide +kernel
theorem dX10_measure_18 : decode cX10_measure 18 = .ok (.if_icmp .ge 9, 3) := by decide +kernel
theorem dX10_measure_21 : decode cX10_measure 21 = .ok (.iload_n 3, 1) := by decide +kernel
theorem dX10_measure_22 : decode cX10_measure 22 = .ok (.bipush 20, 2) := by decide +kernel
theorem dX10_measure_24 : decode cX10_measure 24 = .ok (.if_icmp .le 5, 3) := by decide +kernel
theorem dX10_measure_27 : decode cX10_measure 27 = .ok (.lconst 0, 1) := by decide +kernel
theorem dX10_measure_28 : decode cX10_measure 28 = .ok (.lreturn, 1) := by decide +kernel
theorem dX10_measure_29 : decode cX10_measure 29 = .ok (.aload_n 0, 1) := by decide +kernel
theorem dX10_measure_30 : decode cX10_measure 30 = .ok (.getfield 21, 3) := by decide +kernel
theorem dX10_measure_33 : decode cX10_measure 33 = .ok (.iload 4, 2) := by decide +kernel
theorem dX10_measure_35 : decode cX10_measure 35 = .ok (.laload, 1) := by decide +kernel
theorem dX10_measure_36 : decode cX10_measure 36 = .ok (.bipush 40, 2) := by decide +kernel
theorem dX10_measure_38 : decode cX10_measure 38 = .ok (.lushr, 1) := by decide +kernel
theorem dX10_measure_39 : decode cX10_measure 39 = .ok (.aload_n 0, 1) := by decide +kernel
theorem dX10_measure_40 : decode cX10_measure 40 = .ok (.getfield 128, 3) := by decide +kernel
theorem dX10_measure_43 : decode cX10_measure 43 = .ok (.i2l, 1) := by decide +kernel
theorem dX10_measure_44 : decode cX10_measure 44 = .ok (.lcmp, 1) := by decide +kernel
theorem dX10_measure_45 : decode cX10_measure 45 = .ok (.ifCond .ne 11, 3) := by decide +kernel
theorem dX10_measure_48 : decode cX10_measure 48 = .ok (.aload_n 0, 1) := by decide +kernel
theorem dX10_measure_49 : decode cX10_measure 49 = .ok (.getfield 21, 3) := by decide +kernel
theorem dX10_measure_52 : decode cX10_measure 52 = .ok (.iload 4, 2) := by decide +kernel
theorem dX10_measure_54 : decode cX10_measure 54 = .ok (.laload, 1) := by decide +kernel
theorem dX10_measure_55 : decode cX10_measure 55 = .ok (.lreturn, 1) := by decide +kernel
theorem dX10_measure_56 : decode cX10_measure 56 = .ok (.aload_n 0, 1) := by decide +kernel
theorem dX10_measure_57 : decode cX10_measure 57 = .ok (.dup, 1) := by decide +kernel
theorem dX10_measure_58 : decode cX10_measure 58 = .ok (.getfield 131, 3) := by decide +kernel
theorem dX10_measure_61 : decode cX10_measure 61 = .ok (.iconst 1, 1) := by decide +kernel
theorem dX10_measure_62 : decode cX10_measure 62 = .ok (.iadd, 1) := by decide +kernel
theorem dX10_measure_63 : decode cX10_measure 63 = .ok (.putfield 131, 3) := by decide +kernel
theorem dX10_measure_66 : decode cX10_measure 66 = .ok (.iconst 1, 1) := by decide +kernel
theorem dX10_measure_67 : decode cX10_measure 67 = .ok (.istore 5, 2) := by decide +kernel
theorem dX10_measure_69 : decode cX10_measure 69 = .ok (.iconst 0, 1) := by decide +kernel
theorem dX10_measure_70 : decode cX10_measure 70 = .ok (.istore 6, 2) := by decide +kernel
theorem dX10_measure_72 : decode cX10_measure 72 = .ok (.iconst 0, 1) := by decide +kernel
theorem dX10_measure_73 : decode cX10_measure 73 = .ok (.istore 7, 2) := by decide +kernel
theorem dX10_measure_75 : decode cX10_measure 75 = .ok (.aload_n 0, 1) := by decide +kernel
theorem dX10_measure_76 : decode cX10_measure 76 = .ok (.iload_n 1, 1) := by decide +kernel
theorem dX10_measure_77 : decode cX10_measure 77 = .ok (.iload_n 2, 1) := by decide +kernel
theorem dX10_measure_78 : decode cX10_measure 78 = .ok (.invokevirtual 145, 3) := by decide +kernel
theorem dX10_measure_81 : decode cX10_measure 81 = .ok (.istore 8, 2) := by decide +kernel
theorem dX10_measure_83 : decode cX10_measure 83 = .ok (.aload_n 0, 1) := by decide +kernel
theorem dX10_measure_84 : decode cX10_measure 84 = .ok (.getfield 33, 3) := by decide +kernel
theorem dX10_measure_87 : decode cX10_measure 87 = .ok (.iload_n 1, 1) := by decide +kernel
theorem dX10_measure_88 : decode cX10_measure 88 = .ok (.invokevirtual 64, 3) := by decide +kernel
theorem dX10_measure_91 : decode cX10_measure 91 = .ok (.istore 9, 2) := by decide +kernel
theorem dX10_measure_93 : decode cX10_measure 93 = .ok (.aload_n 0, 1) := by decide +kernel
theorem dX10_measure_94 : decode cX10_measure 94 = .ok (.getfield 29, 3) := by decide +kernel
theorem dX10_measure_97 : decode cX10_measure 97 = .ok (.iload 9, 2) := by decide +kernel
theorem dX10_measure_99 : decode cX10_measure 99 = .ok (.invokevirtual 148, 3) := by decide +kernel
theorem dX10_measure_102 : decode cX10_measure 102 = .ok (.istore 10, 2) := by decide +kernel
theorem dX10_measure_104 : decode cX10_measure 104 = .ok (.iload 8, 2) := by decide +kernel
theorem dX10_measure_106 : decode cX10_measure 106 = .ok (.iconst (-1), 1) := by decide +kernel
theorem dX10_measure_107 : decode cX10_measure 107 = .ok (.if_icmp .eq 119, 3) := by decide +kernel
theorem dX10_measure_110 : decode cX10_measure 110 = .ok (.aload_n 0, 1) := by decide +kernel
theorem dX10_measure_111 : decode cX10_measure 111 = .ok (.iload_n 2, 1) := by decide +kernel
theorem dX10_measure_112 : decode cX10_measure 112 = .ok (.invokevirtual 151, 3) := by decide +kernel
theorem dX10_measure_115 : decode cX10_measure 115 = .ok (.istore 6, 2) := by decide +kernel
theorem dX10_measure_117 : decode cX10_measure 117 = .ok (.aload_n 0, 1) := by decide +kernel
theorem dX10_measure_118 : decode cX10_measure 118 = .ok (.iload_n 1, 1) := by decide +kernel
theorem dX10_measure_119 : decode cX10_measure 119 = .ok (.iload_n 2, 1) := by decide +kernel
theorem dX10_measure_120 : decode cX10_measure 120 = .ok (.iload 8, 2) := by decide +kernel
theorem dX10_measure_122 : decode cX10_measure 122 = .ok (.invokevirtual 154, 3) := by decide +kernel
theorem dX10_measure_125 : decode cX10_measure 125 = .ok (.astore 11, 2) := by decide +kernel
theorem dX10_measure_127 : decode cX10_measure 127 = .ok (.iload_n 2, 1) := by decide +kernel
theorem dX10_measure_128 : decode cX10_measure 128 = .ok (.iconst 1, 1) := by decide +kernel
theorem dX10_measure_129 : decode cX10_measure 129 = .ok (.iload 8, 2) := by decide +kernel
theorem dX10_measure_131 : decode cX10_measure 131 = .ok (.ishl, 1) := by decide +kernel
theorem dX10_measure_132 : decode cX10_measure 132 = .ok (.iconst (-1), 1) := by decide +kernel
theorem dX10_measure_133 : decode cX10_measure 133 = .ok (.ixor, 1) := by decide +kernel
theorem dX10_measure_134 : decode cX10_measure 134 = .ok (.iand, 1) := by decide +kernel
theorem dX10_measure_135 : decode cX10_measure 135 = .ok (.istore 12, 2) := by decide +kernel
theorem dX10_measure_137 : decode cX10_measure 137 = .ok (.iconst 0, 1) := by decide +kernel
theorem dX10_measure_138 : decode cX10_measure 138 = .ok (.istore 13, 2) := by decide +kernel
theorem dX10_measure_140 : decode cX10_measure 140 = .ok (.iload 13, 2) := by decide +kernel
theorem dX10_measure_142 : decode cX10_measure 142 = .ok (.aload 11, 2) := by decide +kernel
theorem dX10_measure_144 : decode cX10_measure 144 = .ok (.getfield 103, 3) := by decide +kernel
theorem dX10_measure_147 : decode cX10_measure 147 = .ok (.if_icmp .ge 76, 3) := by decide +kernel
theorem dX10_measure_150 : decode cX10_measure 150 = .ok (.aload_n 0, 1) := by decide +kernel
theorem dX10_measure_151 : decode cX10_measure 151 = .ok (.aload 11, 2) := by decide +kernel
theorem dX10_measure_153 : decode cX10_measure 153 = .ok (.getfield 104, 3) := by decide +kernel
theorem dX10_measure_156 : decode cX10_measure 156 = .ok (.iload 13, 2) := by decide +kernel
theorem dX10_measure_158 : decode cX10_measure 158 = .ok (.iaload, 1) := by decide +kernel
theorem dX10_measure_159 : decode cX10_measure 159 = .ok (.iload 12, 2) := by decide +kernel
theorem dX10_measure_161 : decode cX10_measure 161 = .ok (.iload_n 3, 1) := by decide +kernel
theorem dX10_measure_162 : decode cX10_measure 162 = .ok (.iconst 1, 1) := by decide +kernel
theorem dX10_measure_163 : decode cX10_measure 163 = .ok (.iadd, 1) := by decide +kernel
theorem dX10_measure_164 : decode cX10_measure 164 = .ok (.invokestatic 141, 3) := by decide +kernel
theorem dX10_measure_167 : decode cX10_measure 167 = .ok (.lstore 14, 2) := by decide +kernel
theorem dX10_measure_169 : decode cX10_measure 169 = .ok (.ldc 158, 2) := by decide +kernel
theorem dX10_measure_171 : decode cX10_measure 171 = .ok (.iload 5, 2) := by decide +kernel
theorem dX10_measure_173 : decode cX10_measure 173 = .ok (.lload 14, 2) := by decide +kernel
theorem dX10_measure_175 : decode cX10_measure 175 = .ok (.invokestatic 159, 3) := by decide +kernel
theorem dX10_measure_178 : decode cX10_measure 178 = .ok (.iadd, 1) := by decide +kernel
theorem dX10_measure_179 : decode cX10_measure 179 = .ok (.invokestatic 121, 3) := by decide +kernel
theorem dX10_measure_182 : decode cX10_measure 182 = .ok (.istore 5, 2) := by decide +kernel
theorem dX10_measure_184 : decode cX10_measure 184 = .ok (.iload 6, 2) := by decide +kernel
theorem dX10_measure_186 : decode cX10_measure 186 = .ok (.aload 11, 2) := by decide +kernel
theorem dX10_measure_188 : decode cX10_measure 188 = .ok (.getfield 163, 3) := by decide +kernel
theorem dX10_measure_191 : decode cX10_measure 191 = .ok (.iload 13, 2) := by decide +kernel
theorem dX10_measure_193 : decode cX10_measure 193 = .ok (.iaload, 1) := by decide +kernel
theorem dX10_measure_194 : decode cX10_measure 194 = .ok (.lload 14, 2) := by decide +kernel
theorem dX10_measure_196 : decode cX10_measure 196 = .ok (.invokestatic 164, 3) := by decide +kernel
theorem dX10_measure_199 : decode cX10_measure 199 = .ok (.imul, 1) := by decide +kernel
theorem dX10_measure_200 : decode cX10_measure 200 = .ok (.iadd, 1) := by decide +kernel
theorem dX10_measure_201 : decode cX10_measure 201 = .ok (.istore 6, 2) := by decide +kernel
theorem dX10_measure_203 : decode cX10_measure 203 = .ok (.iload 7, 2) := by decide +kernel
theorem dX10_measure_205 : decode cX10_measure 205 = .ok (.lload 14, 2) := by decide +kernel
theorem dX10_measure_207 : decode cX10_measure 207 = .ok (.invokestatic 167, 3) := by decide +kernel
theorem dX10_measure_210 : decode cX10_measure 210 = .ok (.iconst 1, 1) := by decide +kernel
theorem dX10_measure_211 : decode cX10_measure 211 = .ok (.iadd, 1) := by decide +kernel
theorem dX10_measure_212 : decode cX10_measure 212 = .ok (.invokestatic 116, 3) := by decide +kernel
theorem dX10_measure_215 : decode cX10_measure 215 = .ok (.istore 7, 2) := by decide +kernel
theorem dX10_measure_217 : decode cX10_measure 217 = .ok (.iinc 13 1, 3) := by decide +kernel
theorem dX10_measure_220 : decode cX10_measure 220 = .ok (.goto (-80), 3) := by decide +kernel
theorem dX10_measure_223 : decode cX10_measure 223 = .ok (.goto 75, 3) := by decide +kernel
theorem dX10_measure_226 : decode cX10_measure 226 = .ok (.iload 10, 2) := by decide +kernel
theorem dX10_measure_228 : decode cX10_measure 228 = .ok (.iconst (-1), 1) := by decide +kernel
theorem dX10_measure_229 : decode cX10_measure 229 = .ok (.if_icmp .eq 69, 3) := by decide +kernel
theorem dX10_measure_232 : decode cX10_measure 232 = .ok (.aload_n 0, 1) := by decide +kernel
theorem dX10_measure_233 : decode cX10_measure 233 = .ok (.iload_n 1, 1) := by decide +kernel
theorem dX10_measure_234 : decode cX10_measure 234 = .ok (.iconst 1, 1) := by decide +kernel
theorem dX10_measure_235 : decode cX10_measure 235 = .ok (.iload 9, 2) := by decide +kernel
theorem dX10_measure_237 : decode cX10_measure 237 = .ok (.ishl, 1) := by decide +kernel
theorem dX10_measure_238 : decode cX10_measure 238 = .ok (.iconst (-1), 1) := by decide +kernel
theorem dX10_measure_239 : decode cX10_measure 239 = .ok (.ixor, 1) := by decide +kernel
theorem dX10_measure_240 : decode cX10_measure 240 = .ok (.iand, 1) := by decide +kernel
theorem dX10_measure_241 : decode cX10_measure 241 = .ok (.iload_n 2, 1) := by decide +kernel
theorem dX10_measure_242 : decode cX10_measure 242 = .ok (.iload_n 3, 1) := by decide +kernel
theorem dX10_measure_243 : decode cX10_measure 243 = .ok (.iconst 1, 1) := by decide +kernel
theorem dX10_measure_244 : decode cX10_measure 244 = .ok (.iadd, 1) := by decide +kernel
theorem dX10_measure_245 : decode cX10_measure 245 = .ok (.invokestatic 141, 3) := by decide +kernel
theorem dX10_measure_248 : decode cX10_measure 248 = .ok (.lstore 11, 2) := by decide +kernel
theorem dX10_measure_250 : decode cX10_measure 250 = .ok (.ldc 158, 2) := by decide +kernel
theorem dX10_measure_252 : decode cX10_measure 252 = .ok (.iload 5, 2) := by decide +kernel
theorem dX10_measure_254 : decode cX10_measure 254 = .ok (.lload 11, 2) := by decide +kernel
theorem dX10_measure_256 : decode cX10_measure 256 = .ok (.invokestatic 159, 3) := by decide +kernel
theorem dX10_measure_259 : decode cX10_measure 259 = .ok (.iadd, 1) := by decide +kernel
theorem dX10_measure_260 : decode cX10_measure 260 = .ok (.invokestatic 121, 3) := by decide +kernel
theorem dX10_measure_263 : decode cX10_measure 263 = .ok (.istore 5, 2) := by decide +kernel
theorem dX10_measure_265 : decode cX10_measure 265 = .ok (.aload_n 0, 1) := by decide +kernel
theorem dX10_measure_266 : decode cX10_measure 266 = .ok (.getfield 33, 3) := by decide +kernel
theorem dX10_measure_269 : decode cX10_measure 269 = .ok (.getfield 170, 3) := by decide +kernel
theorem dX10_measure_272 : decode cX10_measure 272 = .ok (.iload 10, 2) := by decide +kernel
theorem dX10_measure_274 : decode cX10_measure 274 = .ok (.invokestatic 70, 3) := by decide +kernel
theorem dX10_measure_277 : decode cX10_measure 277 = .ok (.ifCond .eq 7, 3) := by decide +kernel
theorem dX10_measure_280 : decode cX10_measure 280 = .ok (.iconst 0, 1) := by decide +kernel
theorem dX10_measure_281 : decode cX10_measure 281 = .ok (.goto 8, 3) := by decide +kernel
theorem dX10_measure_284 : decode cX10_measure 284 = .ok (.lload 11, 2) := by decide +kernel
theorem dX10_measure_286 : decode cX10_measure 286 = .ok (.invokestatic 164, 3) := by decide +kernel
theorem dX10_measure_289 : decode cX10_measure 289 = .ok (.istore 6, 2) := by decide +kernel
theorem dX10_measure_291 : decode cX10_measure 291 = .ok (.lload 11, 2) := by decide +kernel
theorem dX10_measure_293 : decode cX10_measure 293 = .ok (.invokestatic 167, 3) := by decide +kernel
theorem dX10_measure_296 : decode cX10_measure 296 = .ok (.istore 7, 2) := by decide +kernel
theorem dX10_measure_298 : decode cX10_measure 298 = .ok (.iload 7, 2) := by decide +kernel
theorem dX10_measure_300 : decode cX10_measure 300 = .ok (.i2l, 1) := by decide +kernel
theorem dX10_measure_301 : decode cX10_measure 301 = .ok (.bipush 17, 2) := by decide +kernel
theorem dX10_measure_303 : decode cX10_measure 303 = .ok (.lshl, 1) := by decide +kernel
theorem dX10_measure_304 : decode cX10_measure 304 = .ok (.iload 6, 2) := by decide +kernel
theorem dX10_measure_306 : decode cX10_measure 306 = .ok (.i2l, 1) := by decide +kernel
theorem dX10_measure_307 : decode cX10_measure 307 = .ok (.lor, 1) := by decide +kernel
theorem dX10_measure_308 : decode cX10_measure 308 = .ok (.bipush 20, 2) := by decide +kernel
theorem dX10_measure_310 : decode cX10_measure 310 = .ok (.lshl, 1) := by decide +kernel
theorem dX10_measure_311 : decode cX10_measure 311 = .ok (.iload 5, 2) := by decide +kernel
theorem dX10_measure_313 : decode cX10_measure 313 = .ok (.i2l, 1) := by decide +kernel
