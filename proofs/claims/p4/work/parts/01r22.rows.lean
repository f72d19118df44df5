theorem dX12_fits_16 : decode cX12_fits 16 = .ok (.invokestatic 362, 3) := by decide +kernel
theorem dX12_fits_19 : decode cX12_fits 19 = .ok (.ifCond .eq 18, 3) := by decide +kernel
theorem dX12_fits_22 : decode cX12_fits 22 = .ok (.iload_n 3, 1) := by decide +kernel
theorem dX12_fits_23 : decode cX12_fits 23 = .ok (.iconst 0, 1) := by decide +kernel
theorem dX12_fits_24 : decode cX12_fits 24 = .ok (.aload_n 0, 1) := by decide +kernel
theorem dX12_fits_25 : decode cX12_fits 25 = .ok (.iload_n 2, 1) := by decide +kernel
theorem dX12_fits_26 : decode cX12_fits 26 = .ok (.invokevirtual 463, 3) := by decide +kernel
theorem dX12_fits_29 : decode cX12_fits 29 = .ok (.iconst 1, 1) := by decide +kernel
theorem dX12_fits_30 : decode cX12_fits 30 = .ok (.isub, 1) := by decide +kernel
theorem dX12_fits_31 : decode cX12_fits 31 = .ok (.invokestatic 362, 3) := by decide +kernel
theorem dX12_fits_34 : decode cX12_fits 34 = .ok (.ifCond .ne 5, 3) := by decide +kernel
theorem dX12_fits_37 : decode cX12_fits 37 = .ok (.iconst (-1), 1) := by decide +kernel
theorem dX12_fits_38 : decode cX12_fits 38 = .ok (.ireturn, 1) := by decide +kernel
theorem dX12_fits_39 : decode cX12_fits 39 = .ok (.aload_n 0, 1) := by decide +kernel
theorem dX12_fits_40 : decode cX12_fits 40 = .ok (.iconst 0, 1) := by decide +kernel
theorem dX12_fits_41 : decode cX12_fits 41 = .ok (.invokevirtual 501, 3) := by decide +kernel
theorem dX12_fits_44 : decode cX12_fits 44 = .ok (.aload_n 0, 1) := by decide +kernel
theorem dX12_fits_45 : decode cX12_fits 45 = .ok (.iload_n 2, 1) := by decide +kernel
theorem dX12_fits_46 : decode cX12_fits 46 = .ok (.iload_n 3, 1) := by decide +kernel
theorem dX12_fits_47 : decode cX12_fits 47 = .ok (.invokevirtual 481, 3) := by decide +kernel
theorem dX12_fits_50 : decode cX12_fits 50 = .ok (.iload_n 1, 1) := by decide +kernel
theorem dX12_fits_51 : decode cX12_fits 51 = .ok (.ishr, 1) := by decide +kernel
theorem dX12_fits_52 : decode cX12_fits 52 = .ok (.iconst 1, 1) := by decide +kernel
theorem dX12_fits_53 : decode cX12_fits 53 = .ok (.iand, 1) := by decide +kernel
theorem dX12_fits_54 : decode cX12_fits 54 = .ok (.ireturn, 1) := by decide +kernel
theorem dX12_holds_0 : decode cX12_holds 0 = .ok (.aload_n 0, 1) := by decide +kernel
theorem dX12_holds_1 : decode cX12_holds 1 = .ok (.iload_n 1, 1) := by decide +kernel
theorem dX12_holds_2 : decode cX12_holds 2 = .ok (.invokevirtual 498, 3) := by decide +kernel
theorem dX12_holds_5 : decode cX12_holds 5 = .ok (.ifCond .eq 11, 3) := by decide +kernel
theorem dX12_holds_8 : decode cX12_holds 8 = .ok (.aload_n 0, 1) := by decide +kernel
theorem dX12_holds_9 : decode cX12_holds 9 = .ok (.iload_n 2, 1) := by decide +kernel
theorem dX12_holds_10 : decode cX12_holds 10 = .ok (.invokevirtual 498, 3) := by decide +kernel
theorem dX12_holds_13 : decode cX12_holds 13 = .ok (.ifCond .ne 5, 3) := by decide +kernel
theorem dX12_holds_16 : decode cX12_holds 16 = .ok (.iconst (-1), 1) := by decide +kernel
theorem dX12_holds_17 : decode cX12_holds 17 = .ok (.ireturn, 1) := by decide +kernel
theorem dX12_holds_18 : decode cX12_holds 18 = .ok (.aload_n 0, 1) := by decide +kernel
theorem dX12_holds_19 : decode cX12_holds 19 = .ok (.iconst 0, 1) := by decide +kernel
theorem dX12_holds_20 : decode cX12_holds 20 = .ok (.invokevirtual 501, 3) := by decide +kernel
theorem dX12_holds_23 : decode cX12_holds 23 = .ok (.aload_n 0, 1) := by decide +kernel
theorem dX12_holds_24 : decode cX12_holds 24 = .ok (.invokevirtual 504, 3) := by decide +kernel
theorem dX12_holds_27 : decode cX12_holds 27 = .ok (.iconst 0, 1) := by decide +kernel
theorem dX12_holds_28 : decode cX12_holds 28 = .ok (.istore_n 3, 1) := by decide +kernel
theorem dX12_holds_29 : decode cX12_holds 29 = .ok (.iload_n 3, 1) := by decide +kernel
theorem dX12_holds_30 : decode cX12_holds 30 = .ok (.sipush 4096, 3) := by decide +kernel
theorem dX12_holds_33 : decode cX12_holds 33 = .ok (.if_icmp .ge 37, 3) := by decide +kernel
theorem dX12_holds_36 : decode cX12_holds 36 = .ok (.aload_n 0, 1) := by decide +kernel
theorem dX12_holds_37 : decode cX12_holds 37 = .ok (.getfield 218, 3) := by decide +kernel
theorem dX12_holds_40 : decode cX12_holds 40 = .ok (.iload_n 3, 1) := by decide +kernel
theorem dX12_holds_41 : decode cX12_holds 41 = .ok (.iaload, 1) := by decide +kernel
theorem dX12_holds_42 : decode cX12_holds 42 = .ok (.ifCond .le 22, 3) := by decide +kernel
theorem dX12_holds_45 : decode cX12_holds 45 = .ok (.iload_n 3, 1) := by decide +kernel
theorem dX12_holds_46 : decode cX12_holds 46 = .ok (.iload_n 2, 1) := by decide +kernel
theorem dX12_holds_47 : decode cX12_holds 47 = .ok (.ishr, 1) := by decide +kernel
theorem dX12_holds_48 : decode cX12_holds 48 = .ok (.iconst 1, 1) := by decide +kernel
theorem dX12_holds_49 : decode cX12_holds 49 = .ok (.iand, 1) := by decide +kernel
theorem dX12_holds_50 : decode cX12_holds 50 = .ok (.iconst 1, 1) := by decide +kernel
theorem dX12_holds_51 : decode cX12_holds 51 = .ok (.if_icmp .ne 13, 3) := by decide +kernel
theorem dX12_holds_54 : decode cX12_holds 54 = .ok (.iload_n 3, 1) := by decide +kernel
theorem dX12_holds_55 : decode cX12_holds 55 = .ok (.iload_n 1, 1) := by decide +kernel
theorem dX12_holds_56 : decode cX12_holds 56 = .ok (.ishr, 1) := by decide +kernel
theorem dX12_holds_57 : decode cX12_holds 57 = .ok (.iconst 1, 1) := by decide +kernel
theorem dX12_holds_58 : decode cX12_holds 58 = .ok (.iand, 1) := by decide +kernel
theorem dX12_holds_59 : decode cX12_holds 59 = .ok (.ifCond .ne 5, 3) := by decide +kernel
theorem dX12_holds_62 : decode cX12_holds 62 = .ok (.iconst 0, 1) := by decide +kernel
theorem dX12_holds_63 : decode cX12_holds 63 = .ok (.ireturn, 1) := by decide +kernel
theorem dX12_holds_64 : decode cX12_holds 64 = .ok (.iinc 3 1, 3) := by decide +kernel
theorem dX12_holds_67 : decode cX12_holds 67 = .ok (.goto (-38), 3) := by decide +kernel
theorem dX12_holds_70 : decode cX12_holds 70 = .ok (.iconst 1, 1) := by decide +kernel
theorem dX12_holds_71 : decode cX12_holds 71 = .ok (.ireturn, 1) := by decide +kernel
theorem dX12_missing_0 : decode cX12_missing 0 = .ok (.aload_n 0, 1) := by decide +kernel
theorem dX12_missing_1 : decode cX12_missing 1 = .ok (.getfield 146, 3) := by decide +kernel
theorem dX12_missing_4 : decode cX12_missing 4 = .ok (.ifCond .eq 8, 3) := by decide +kernel
theorem dX12_missing_7 : decode cX12_missing 7 = .ok (.iload_n 1, 1) := by decide +kernel
theorem dX12_missing_8 : decode cX12_missing 8 = .ok (.iconst (-1), 1) := by decide +kernel
theorem dX12_missing_9 : decode cX12_missing 9 = .ok (.if_icmp .ge 5, 3) := by decide +kernel
theorem dX12_missing_12 : decode cX12_missing 12 = .ok (.iconst (-1), 1) := by decide +kernel
theorem dX12_missing_13 : decode cX12_missing 13 = .ok (.ireturn, 1) := by decide +kernel
theorem dX12_missing_14 : decode cX12_missing 14 = .ok (.aload_n 0, 1) := by decide +kernel
theorem dX12_missing_15 : decode cX12_missing 15 = .ok (.iconst 0, 1) := by decide +kernel
theorem dX12_missing_16 : decode cX12_missing 16 = .ok (.invokevirtual 501, 3) := by decide +kernel
theorem dX12_missing_19 : decode cX12_missing 19 = .ok (.iconst 0, 1) := by decide +kernel
theorem dX12_missing_20 : decode cX12_missing 20 = .ok (.istore_n 2, 1) := by decide +kernel
theorem dX12_missing_21 : decode cX12_missing 21 = .ok (.iconst 0, 1) := by decide +kernel
theorem dX12_missing_22 : decode cX12_missing 22 = .ok (.istore_n 3, 1) := by decide +kernel
theorem dX12_missing_23 : decode cX12_missing 23 = .ok (.iload_n 3, 1) := by decide +kernel
theorem dX12_missing_24 : decode cX12_missing 24 = .ok (.aload_n 0, 1) := by decide +kernel
theorem dX12_missing_25 : decode cX12_missing 25 = .ok (.getfield 170, 3) := by decide +kernel
theorem dX12_missing_28 : decode cX12_missing 28 = .ok (.if_icmp .ge 35, 3) := by decide +kernel
theorem dX12_missing_31 : decode cX12_missing 31 = .ok (.aload_n 0, 1) := by decide +kernel
theorem dX12_missing_32 : decode cX12_missing 32 = .ok (.iload_n 3, 1) := by decide +kernel
theorem dX12_missing_33 : decode cX12_missing 33 = .ok (.invokevirtual 484, 3) := by decide +kernel
theorem dX12_missing_36 : decode cX12_missing 36 = .ok (.aload_n 0, 1) := by decide +kernel
theorem dX12_missing_37 : decode cX12_missing 37 = .ok (.getfield 212, 3) := by decide +kernel
theorem dX12_missing_40 : decode cX12_missing 40 = .ok (.iand, 1) := by decide +kernel
theorem dX12_missing_41 : decode cX12_missing 41 = .ok (.ifCond .eq 6, 3) := by decide +kernel
theorem dX12_missing_44 : decode cX12_missing 44 = .ok (.goto 13, 3) := by decide +kernel
theorem dX12_missing_47 : decode cX12_missing 47 = .ok (.iload_n 2, 1) := by decide +kernel
theorem dX12_missing_48 : decode cX12_missing 48 = .ok (.iload_n 1, 1) := by decide +kernel
theorem dX12_missing_49 : decode cX12_missing 49 = .ok (.if_icmp .ne 5, 3) := by decide +kernel
theorem dX12_missing_52 : decode cX12_missing 52 = .ok (.iload_n 3, 1) := by decide +kernel
theorem dX12_missing_53 : decode cX12_missing 53 = .ok (.ireturn, 1) := by decide +kernel
theorem dX12_missing_54 : decode cX12_missing 54 = .ok (.iinc 2 1, 3) := by decide +kernel
theorem dX12_missing_57 : decode cX12_missing 57 = .ok (.iinc 3 1, 3) := by decide +kernel
theorem dX12_missing_60 : decode cX12_missing 60 = .ok (.goto (-37), 3) := by decide +kernel
theorem dX12_missing_63 : decode cX12_missing 63 = .ok (.iload_n 1, 1) := by decide +kernel
theorem dX12_missing_64 : decode cX12_missing 64 = .ok (.iconst (-1), 1) := by decide +kernel
theorem dX12_missing_65 : decode cX12_missing 65 = .ok (.if_icmp .ne 7, 3) := by decide +kernel
theorem dX12_missing_68 : decode cX12_missing 68 = .ok (.iload_n 2, 1) := by decide +kernel
theorem dX12_missing_69 : decode cX12_missing 69 = .ok (.goto 4, 3) := by decide +kernel
theorem dX12_missing_72 : decode cX12_missing 72 = .ok (.iconst (-1), 1) := by decide +kernel
theorem dX12_missing_73 : decode cX12_missing 73 = .ok (.ireturn, 1) := by decide +kernel
theorem dX12_isRow_0 : decode cX12_isRow 0 = .ok (.aload_n 0, 1) := by decide +kernel
theorem dX12_isRow_1 : decode cX12_isRow 1 = .ok (.getfield 146, 3) := by decide +kernel
theorem dX12_isRow_4 : decode cX12_isRow 4 = .ok (.ifCond .eq 21, 3) := by decide +kernel
theorem dX12_isRow_7 : decode cX12_isRow 7 = .ok (.iload_n 1, 1) := by decide +kernel
theorem dX12_isRow_8 : decode cX12_isRow 8 = .ok (.iconst 0, 1) := by decide +kernel
theorem dX12_isRow_9 : decode cX12_isRow 9 = .ok (.aload_n 0, 1) := by decide +kernel
theorem dX12_isRow_10 : decode cX12_isRow 10 = .ok (.getfield 170, 3) := by decide +kernel
theorem dX12_isRow_13 : decode cX12_isRow 13 = .ok (.iconst 1, 1) := by decide +kernel
theorem dX12_isRow_14 : decode cX12_isRow 14 = .ok (.isub, 1) := by decide +kernel
theorem dX12_isRow_15 : decode cX12_isRow 15 = .ok (.invokestatic 362, 3) := by decide +kernel
theorem dX12_isRow_18 : decode cX12_isRow 18 = .ok (.ifCond .eq 7, 3) := by decide +kernel
theorem dX12_isRow_21 : decode cX12_isRow 21 = .ok (.iconst 1, 1) := by decide +kernel
theorem dX12_isRow_22 : decode cX12_isRow 22 = .ok (.goto 4, 3) := by decide +kernel
theorem dX12_isRow_25 : decode cX12_isRow 25 = .ok (.iconst 0, 1) := by decide +kernel
theorem dX12_isRow_26 : decode cX12_isRow 26 = .ok (.ireturn, 1) := by decide +kernel
theorem dX12_taken_0 : decode cX12_taken 0 = .ok (.aload_n 0, 1) := by decide +kernel
theorem dX12_taken_1 : decode cX12_taken 1 = .ok (.iload_n 1, 1) := by decide +kernel
theorem dX12_taken_2 : decode cX12_taken 2 = .ok (.invokevirtual 516, 3) := by decide +kernel
theorem dX12_taken_5 : decode cX12_taken 5 = .ok (.ifCond .ne 5, 3) := by decide +kernel
theorem dX12_taken_8 : decode cX12_taken 8 = .ok (.iconst (-1), 1) := by decide +kernel
theorem dX12_taken_9 : decode cX12_taken 9 = .ok (.ireturn, 1) := by decide +kernel
theorem dX12_taken_10 : decode cX12_taken 10 = .ok (.aload_n 0, 1) := by decide +kernel
theorem dX12_taken_11 : decode cX12_taken 11 = .ok (.iconst 0, 1) := by decide +kernel
theorem dX12_taken_12 : decode cX12_taken 12 = .ok (.invokevirtual 501, 3) := by decide +kernel
theorem dX12_taken_15 : decode cX12_taken 15 = .ok (.aload_n 0, 1) := by decide +kernel
theorem dX12_taken_16 : decode cX12_taken 16 = .ok (.iload_n 1, 1) := by decide +kernel
theorem dX12_taken_17 : decode cX12_taken 17 = .ok (.invokevirtual 484, 3) := by decide +kernel
theorem dX12_taken_20 : decode cX12_taken 20 = .ok (.aload_n 0, 1) := by decide +kernel
theorem dX12_taken_21 : decode cX12_taken 21 = .ok (.aload_n 0, 1) := by decide +kernel
theorem dX12_taken_22 : decode cX12_taken 22 = .ok (.getfield 179, 3) := by decide +kernel
theorem dX12_taken_25 : decode cX12_taken 25 = .ok (.iconst 0, 1) := by decide +kernel
theorem dX12_taken_26 : decode cX12_taken 26 = .ok (.iaload, 1) := by decide +kernel
theorem dX12_taken_27 : decode cX12_taken 27 = .ok (.invokevirtual 492, 3) := by decide +kernel
theorem dX12_taken_30 : decode cX12_taken 30 = .ok (.iand, 1) := by decide +kernel
theorem dX12_taken_31 : decode cX12_taken 31 = .ok (.invokestatic 495, 3) := by decide +kernel
theorem dX12_taken_34 : decode cX12_taken 34 = .ok (.ireturn, 1) := by decide +kernel
theorem dX12_valueRead_0 : decode cX12_valueRead 0 = .ok (.aload_n 0, 1) := by decide +kernel
theorem dX12_valueRead_1 : decode cX12_valueRead 1 = .ok (.iconst 0, 1) := by decide +kernel
theorem dX12_valueRead_2 : decode cX12_valueRead 2 = .ok (.putfield 143, 3) := by decide +kernel
theorem dX12_valueRead_5 : decode cX12_valueRead 5 = .ok (.aload_n 0, 1) := by decide +kernel
theorem dX12_valueRead_6 : decode cX12_valueRead 6 = .ok (.iload_n 1, 1) := by decide +kernel
theorem dX12_valueRead_7 : decode cX12_valueRead 7 = .ok (.invokevirtual 404, 3) := by decide +kernel
theorem dX12_valueRead_10 : decode cX12_valueRead 10 = .ok (.iconst 0, 1) := by decide +kernel
theorem dX12_valueRead_11 : decode cX12_valueRead 11 = .ok (.istore_n 2, 1) := by decide +kernel
theorem dX12_valueRead_12 : decode cX12_valueRead 12 = .ok (.iconst 1, 1) := by decide +kernel
theorem dX12_valueRead_13 : decode cX12_valueRead 13 = .ok (.istore_n 3, 1) := by decide +kernel
theorem dX12_valueRead_14 : decode cX12_valueRead 14 = .ok (.iload_n 3, 1) := by decide +kernel
theorem dX12_valueRead_15 : decode cX12_valueRead 15 = .ok (.ifCond .eq 179, 3) := by decide +kernel
theorem dX12_valueRead_18 : decode cX12_valueRead 18 = .ok (.aload_n 0, 1) := by decide +kernel
theorem dX12_valueRead_19 : decode cX12_valueRead 19 = .ok (.getfield 36, 3) := by decide +kernel
theorem dX12_valueRead_22 : decode cX12_valueRead 22 = .ok (.ifCond .ne 172, 3) := by decide +kernel
theorem dX12_valueRead_25 : decode cX12_valueRead 25 = .ok (.aload_n 0, 1) := by decide +kernel
theorem dX12_valueRead_26 : decode cX12_valueRead 26 = .ok (.invokevirtual 331, 3) := by decide +kernel
theorem dX12_valueRead_29 : decode cX12_valueRead 29 = .ok (.aload_n 0, 1) := by decide +kernel
theorem dX12_valueRead_30 : decode cX12_valueRead 30 = .ok (.getfield 36, 3) := by decide +kernel
theorem dX12_valueRead_33 : decode cX12_valueRead 33 = .ok (.ifCond .le 5, 3) := by decide +kernel
theorem dX12_valueRead_36 : decode cX12_valueRead 36 = .ok (.iconst 0, 1) := by decide +kernel
theorem dX12_valueRead_37 : decode cX12_valueRead 37 = .ok (.ireturn, 1) := by decide +kernel
theorem dX12_valueRead_38 : decode cX12_valueRead 38 = .ok (.aload_n 0, 1) := by decide +kernel
theorem dX12_valueRead_39 : decode cX12_valueRead 39 = .ok (.getfield 131, 3) := by decide +kernel
theorem dX12_valueRead_42 : decode cX12_valueRead 42 = .ok (.aload_n 0, 1) := by decide +kernel
theorem dX12_valueRead_43 : decode cX12_valueRead 43 = .ok (.getfield 143, 3) := by decide +kernel
theorem dX12_valueRead_46 : decode cX12_valueRead 46 = .ok (.iaload, 1) := by decide +kernel
theorem dX12_valueRead_47 : decode cX12_valueRead 47 = .ok (.iconst 4, 1) := by decide +kernel
theorem dX12_valueRead_48 : decode cX12_valueRead 48 = .ok (.if_icmp .ne 20, 3) := by decide +kernel
theorem dX12_valueRead_51 : decode cX12_valueRead 51 = .ok (.aload_n 0, 1) := by decide +kernel
theorem dX12_valueRead_52 : decode cX12_valueRead 52 = .ok (.iconst 0, 1) := by decide +kernel
theorem dX12_valueRead_53 : decode cX12_valueRead 53 = .ok (.bipush 19, 2) := by decide +kernel
theorem dX12_valueRead_55 : decode cX12_valueRead 55 = .ok (.invokevirtual 407, 3) := by decide +kernel
theorem dX12_valueRead_58 : decode cX12_valueRead 58 = .ok (.istore_n 2, 1) := by decide +kernel
theorem dX12_valueRead_59 : decode cX12_valueRead 59 = .ok (.aload_n 0, 1) := by decide +kernel
theorem dX12_valueRead_60 : decode cX12_valueRead 60 = .ok (.iload_n 2, 1) := by decide +kernel
theorem dX12_valueRead_61 : decode cX12_valueRead 61 = .ok (.invokevirtual 519, 3) := by decide +kernel
theorem dX12_valueRead_64 : decode cX12_valueRead 64 = .ok (.istore_n 3, 1) := by decide +kernel
theorem dX12_valueRead_65 : decode cX12_valueRead 65 = .ok (.goto (-51), 3) := by decide +kernel
theorem dX12_valueRead_68 : decode cX12_valueRead 68 = .ok (.aload_n 0, 1) := by decide +kernel
theorem dX12_valueRead_69 : decode cX12_valueRead 69 = .ok (.aload_n 0, 1) := by decide +kernel
theorem dX12_valueRead_70 : decode cX12_valueRead 70 = .ok (.getfield 131, 3) := by decide +kernel
theorem dX12_valueRead_73 : decode cX12_valueRead 73 = .ok (.aload_n 0, 1) := by decide +kernel
theorem dX12_valueRead_74 : decode cX12_valueRead 74 = .ok (.getfield 143, 3) := by decide +kernel
theorem dX12_valueRead_77 : decode cX12_valueRead 77 = .ok (.iaload, 1) := by decide +kernel
theorem dX12_valueRead_78 : decode cX12_valueRead 78 = .ok (.invokevirtual 522, 3) := by decide +kernel
theorem dX12_valueRead_81 : decode cX12_valueRead 81 = .ok (.istore 4, 2) := by decide +kernel
theorem dX12_valueRead_83 : decode cX12_valueRead 83 = .ok (.aload_n 0, 1) := by decide +kernel
theorem dX12_valueRead_84 : decode cX12_valueRead 84 = .ok (.getfield 36, 3) := by decide +kernel
theorem dX12_valueRead_87 : decode cX12_valueRead 87 = .ok (.ifCond .le 5, 3) := by decide +kernel
theorem dX12_valueRead_90 : decode cX12_valueRead 90 = .ok (.iconst 0, 1) := by decide +kernel
theorem dX12_valueRead_91 : decode cX12_valueRead 91 = .ok (.ireturn, 1) := by decide +kernel
theorem dX12_valueRead_92 : decode cX12_valueRead 92 = .ok (.aload_n 0, 1) := by decide +kernel
theorem dX12_valueRead_93 : decode cX12_valueRead 93 = .ok (.getfield 69, 3) := by decide +kernel
theorem dX12_valueRead_96 : decode cX12_valueRead 96 = .ok (.bipush 24, 2) := by decide +kernel
theorem dX12_valueRead_98 : decode cX12_valueRead 98 = .ok (.aload_n 0, 1) := by decide +kernel
theorem dX12_valueRead_99 : decode cX12_valueRead 99 = .ok (.getfield 51, 3) := by decide +kernel
theorem dX12_valueRead_102 : decode cX12_valueRead 102 = .ok (.imul, 1) := by decide +kernel
theorem dX12_valueRead_103 : decode cX12_valueRead 103 = .ok (.iload 4, 2) := by decide +kernel
theorem dX12_valueRead_105 : decode cX12_valueRead 105 = .ok (.iadd, 1) := by decide +kernel
theorem dX12_valueRead_106 : decode cX12_valueRead 106 = .ok (.iaload, 1) := by decide +kernel
theorem dX12_valueRead_107 : decode cX12_valueRead 107 = .ok (.ifCond .ne 26, 3) := by decide +kernel
theorem dX12_valueRead_110 : decode cX12_valueRead 110 = .ok (.aload_n 0, 1) := by decide +kernel
theorem dX12_valueRead_111 : decode cX12_valueRead 111 = .ok (.aload_n 0, 1) := by decide +kernel
theorem dX12_valueRead_112 : decode cX12_valueRead 112 = .ok (.getfield 75, 3) := by decide +kernel
theorem dX12_valueRead_115 : decode cX12_valueRead 115 = .ok (.bipush 24, 2) := by decide +kernel
theorem dX12_valueRead_117 : decode cX12_valueRead 117 = .ok (.aload_n 0, 1) := by decide +kernel
theorem dX12_valueRead_118 : decode cX12_valueRead 118 = .ok (.getfield 51, 3) := by decide +kernel
theorem dX12_valueRead_121 : decode cX12_valueRead 121 = .ok (.imul, 1) := by decide +kernel
theorem dX12_valueRead_122 : decode cX12_valueRead 122 = .ok (.iload 4, 2) := by decide +kernel
theorem dX12_valueRead_124 : decode cX12_valueRead 124 = .ok (.iadd, 1) := by decide +kernel
theorem dX12_valueRead_125 : decode cX12_valueRead 125 = .ok (.iaload, 1) := by decide +kernel
theorem dX12_valueRead_126 : decode cX12_valueRead 126 = .ok (.invokevirtual 519, 3) := by decide +kernel
theorem dX12_valueRead_129 : decode cX12_valueRead 129 = .ok (.istore_n 3, 1) := by decide +kernel
theorem dX12_valueRead_130 : decode cX12_valueRead 130 = .ok (.goto (-116), 3) := by decide +kernel
theorem dX12_valueRead_133 : decode cX12_valueRead 133 = .ok (.aload_n 0, 1) := by decide +kernel
theorem dX12_valueRead_134 : decode cX12_valueRead 134 = .ok (.bipush 40, 2) := by decide +kernel
theorem dX12_valueRead_136 : decode cX12_valueRead 136 = .ok (.invokevirtual 413, 3) := by decide +kernel
theorem dX12_valueRead_139 : decode cX12_valueRead 139 = .ok (.aload_n 0, 1) := by decide +kernel
theorem dX12_valueRead_140 : decode cX12_valueRead 140 = .ok (.getfield 137, 3) := by decide +kernel
theorem dX12_valueRead_143 : decode cX12_valueRead 143 = .ok (.aload_n 0, 1) := by decide +kernel
theorem dX12_valueRead_144 : decode cX12_valueRead 144 = .ok (.getfield 143, 3) := by decide +kernel
theorem dX12_valueRead_147 : decode cX12_valueRead 147 = .ok (.iload 4, 2) := by decide +kernel
theorem dX12_valueRead_149 : decode cX12_valueRead 149 = .ok (.iastore, 1) := by decide +kernel
theorem dX12_valueRead_150 : decode cX12_valueRead 150 = .ok (.aload_n 0, 1) := by decide +kernel
theorem dX12_valueRead_151 : decode cX12_valueRead 151 = .ok (.getfield 140, 3) := by decide +kernel
theorem dX12_valueRead_154 : decode cX12_valueRead 154 = .ok (.aload_n 0, 1) := by decide +kernel
theorem dX12_valueRead_155 : decode cX12_valueRead 155 = .ok (.getfield 143, 3) := by decide +kernel
theorem dX12_valueRead_158 : decode cX12_valueRead 158 = .ok (.iconst 0, 1) := by decide +kernel
theorem dX12_valueRead_159 : decode cX12_valueRead 159 = .ok (.iastore, 1) := by decide +kernel
theorem dX12_valueRead_160 : decode cX12_valueRead 160 = .ok (.aload_n 0, 1) := by decide +kernel
theorem dX12_valueRead_161 : decode cX12_valueRead 161 = .ok (.getfield 134, 3) := by decide +kernel
theorem dX12_valueRead_164 : decode cX12_valueRead 164 = .ok (.aload_n 0, 1) := by decide +kernel
theorem dX12_valueRead_165 : decode cX12_valueRead 165 = .ok (.getfield 143, 3) := by decide +kernel
theorem dX12_valueRead_168 : decode cX12_valueRead 168 = .ok (.iconst 0, 1) := by decide +kernel
theorem dX12_valueRead_169 : decode cX12_valueRead 169 = .ok (.iastore, 1) := by decide +kernel
theorem dX12_valueRead_170 : decode cX12_valueRead 170 = .ok (.aload_n 0, 1) := by decide +kernel
theorem dX12_valueRead_171 : decode cX12_valueRead 171 = .ok (.aload_n 0, 1) := by decide +kernel
theorem dX12_valueRead_172 : decode cX12_valueRead 172 = .ok (.getfield 72, 3) := by decide +kernel
theorem dX12_valueRead_175 : decode cX12_valueRead 175 = .ok (.iconst 2, 1) := by decide +kernel
theorem dX12_valueRead_176 : decode cX12_valueRead 176 = .ok (.bipush 24, 2) := by decide +kernel
theorem dX12_valueRead_178 : decode cX12_valueRead 178 = .ok (.aload_n 0, 1) := by decide +kernel
theorem dX12_valueRead_179 : decode cX12_valueRead 179 = .ok (.getfield 51, 3) := by decide +kernel
theorem dX12_valueRead_182 : decode cX12_valueRead 182 = .ok (.imul, 1) := by decide +kernel
theorem dX12_valueRead_183 : decode cX12_valueRead 183 = .ok (.iload 4, 2) := by decide +kernel
theorem dX12_valueRead_185 : decode cX12_valueRead 185 = .ok (.iadd, 1) := by decide +kernel
theorem dX12_valueRead_186 : decode cX12_valueRead 186 = .ok (.imul, 1) := by decide +kernel
theorem dX12_valueRead_187 : decode cX12_valueRead 187 = .ok (.iaload, 1) := by decide +kernel
theorem dX12_valueRead_188 : decode cX12_valueRead 188 = .ok (.invokevirtual 404, 3) := by decide +kernel
theorem dX12_valueRead_191 : decode cX12_valueRead 191 = .ok (.goto (-177), 3) := by decide +kernel
theorem dX12_valueRead_194 : decode cX12_valueRead 194 = .ok (.aload_n 0, 1) := by decide +kernel
theorem dX12_valueRead_195 : decode cX12_valueRead 195 = .ok (.getfield 134, 3) := by decide +kernel
theorem dX12_valueRead_198 : decode cX12_valueRead 198 = .ok (.iconst 0, 1) := by decide +kernel
theorem dX12_valueRead_199 : decode cX12_valueRead 199 = .ok (.iaload, 1) := by decide +kernel
theorem dX12_valueRead_200 : decode cX12_valueRead 200 = .ok (.ireturn, 1) := by decide +kernel
theorem dX12_conRead_0 : decode cX12_conRead 0 = .ok (.aload_n 0, 1) := by decide +kernel
theorem dX12_conRead_1 : decode cX12_conRead 1 = .ok (.getfield 20, 3) := by decide +kernel
theorem dX12_conRead_4 : decode cX12_conRead 4 = .ok (.iconst 1, 1) := by decide +kernel
theorem dX12_conRead_5 : decode cX12_conRead 5 = .ok (.if_icmp .ne 14, 3) := by decide +kernel
theorem dX12_conRead_8 : decode cX12_conRead 8 = .ok (.aload_n 0, 1) := by decide +kernel
theorem dX12_conRead_9 : decode cX12_conRead 9 = .ok (.aload_n 0, 1) := by decide +kernel
theorem dX12_conRead_10 : decode cX12_conRead 10 = .ok (.getfield 32, 3) := by decide +kernel
theorem dX12_conRead_13 : decode cX12_conRead 13 = .ok (.invokevirtual 366, 3) := by decide +kernel
theorem dX12_conRead_16 : decode cX12_conRead 16 = .ok (.ifCond .eq 12, 3) := by decide +kernel
theorem dX12_conRead_19 : decode cX12_conRead 19 = .ok (.aload_n 0, 1) := by decide +kernel
theorem dX12_conRead_20 : decode cX12_conRead 20 = .ok (.iconst 1, 1) := by decide +kernel
theorem dX12_conRead_21 : decode cX12_conRead 21 = .ok (.aload_n 0, 1) := by decide +kernel
theorem dX12_conRead_22 : decode cX12_conRead 22 = .ok (.getfield 23, 3) := by decide +kernel
theorem dX12_conRead_25 : decode cX12_conRead 25 = .ok (.invokevirtual 320, 3) := by decide +kernel
theorem dX12_conRead_28 : decode cX12_conRead 28 = .ok (.aload_n 0, 1) := by decide +kernel
theorem dX12_conRead_29 : decode cX12_conRead 29 = .ok (.getfield 36, 3) := by decide +kernel
theorem dX12_conRead_32 : decode cX12_conRead 32 = .ok (.ifCond .le 7, 3) := by decide +kernel
theorem dX12_conRead_35 : decode cX12_conRead 35 = .ok (.iconst 0, 1) := by decide +kernel
theorem dX12_conRead_36 : decode cX12_conRead 36 = .ok (.goto 15, 3) := by decide +kernel
theorem dX12_conRead_39 : decode cX12_conRead 39 = .ok (.aload_n 0, 1) := by decide +kernel
theorem dX12_conRead_40 : decode cX12_conRead 40 = .ok (.aload_n 0, 1) := by decide +kernel
theorem dX12_conRead_41 : decode cX12_conRead 41 = .ok (.getfield 51, 3) := by decide +kernel
theorem dX12_conRead_44 : decode cX12_conRead 44 = .ok (.aload_n 0, 1) := by decide +kernel
theorem dX12_conRead_45 : decode cX12_conRead 45 = .ok (.getfield 32, 3) := by decide +kernel
theorem dX12_conRead_48 : decode cX12_conRead 48 = .ok (.invokevirtual 374, 3) := by decide +kernel
theorem dX12_conRead_51 : decode cX12_conRead 51 = .ok (.istore_n 2, 1) := by decide +kernel
theorem dX12_conRead_52 : decode cX12_conRead 52 = .ok (.aload_n 0, 1) := by decide +kernel
theorem dX12_conRead_53 : decode cX12_conRead 53 = .ok (.getfield 36, 3) := by decide +kernel
theorem dX12_conRead_56 : decode cX12_conRead 56 = .ok (.ifCond .ne 35, 3) := by decide +kernel
theorem dX12_conRead_59 : decode cX12_conRead 59 = .ok (.iload_n 2, 1) := by decide +kernel
theorem dX12_conRead_60 : decode cX12_conRead 60 = .ok (.iconst (-1), 1) := by decide +kernel
theorem dX12_conRead_61 : decode cX12_conRead 61 = .ok (.if_icmp .eq 21, 3) := by decide +kernel
theorem dX12_conRead_64 : decode cX12_conRead 64 = .ok (.aload_n 0, 1) := by decide +kernel
theorem dX12_conRead_65 : decode cX12_conRead 65 = .ok (.getfield 66, 3) := by decide +kernel
theorem dX12_conRead_68 : decode cX12_conRead 68 = .ok (.bipush 24, 2) := by decide +kernel
theorem dX12_conRead_70 : decode cX12_conRead 70 = .ok (.aload_n 0, 1) := by decide +kernel
theorem dX12_conRead_71 : decode cX12_conRead 71 = .ok (.getfield 51, 3) := by decide +kernel
theorem dX12_conRead_74 : decode cX12_conRead 74 = .ok (.imul, 1) := by decide +kernel
theorem dX12_conRead_75 : decode cX12_conRead 75 = .ok (.iload_n 2, 1) := by decide +kernel
theorem dX12_conRead_76 : decode cX12_conRead 76 = .ok (.iadd, 1) := by decide +kernel
theorem dX12_conRead_77 : decode cX12_conRead 77 = .ok (.iaload, 1) := by decide +kernel
theorem dX12_conRead_78 : decode cX12_conRead 78 = .ok (.iload_n 1, 1) := by decide +kernel
theorem dX12_conRead_79 : decode cX12_conRead 79 = .ok (.if_icmp .eq 12, 3) := by decide +kernel
theorem dX12_conRead_82 : decode cX12_conRead 82 = .ok (.aload_n 0, 1) := by decide +kernel
theorem dX12_conRead_83 : decode cX12_conRead 83 = .ok (.iconst 3, 1) := by decide +kernel
theorem dX12_conRead_84 : decode cX12_conRead 84 = .ok (.aload_n 0, 1) := by decide +kernel
theorem dX12_conRead_85 : decode cX12_conRead 85 = .ok (.getfield 23, 3) := by decide +kernel
theorem dX12_conRead_88 : decode cX12_conRead 88 = .ok (.invokevirtual 320, 3) := by decide +kernel
theorem dX12_conRead_91 : decode cX12_conRead 91 = .ok (.aload_n 0, 1) := by decide +kernel
theorem dX12_conRead_92 : decode cX12_conRead 92 = .ok (.getfield 36, 3) := by decide +kernel
theorem dX12_conRead_95 : decode cX12_conRead 95 = .ok (.ifCond .ne 7, 3) := by decide +kernel
theorem dX12_conRead_98 : decode cX12_conRead 98 = .ok (.aload_n 0, 1) := by decide +kernel
theorem dX12_conRead_99 : decode cX12_conRead 99 = .ok (.invokevirtual 337, 3) := by decide +kernel
theorem dX12_conRead_102 : decode cX12_conRead 102 = .ok (.aload_n 0, 1) := by decide +kernel
theorem dX12_conRead_103 : decode cX12_conRead 103 = .ok (.getfield 36, 3) := by decide +kernel
theorem dX12_conRead_106 : decode cX12_conRead 106 = .ok (.ifCond .le 7, 3) := by decide +kernel
theorem dX12_conRead_109 : decode cX12_conRead 109 = .ok (.iconst 0, 1) := by decide +kernel
theorem dX12_conRead_110 : decode cX12_conRead 110 = .ok (.goto 4, 3) := by decide +kernel
theorem dX12_conRead_113 : decode cX12_conRead 113 = .ok (.iload_n 2, 1) := by decide +kernel
theorem dX12_conRead_114 : decode cX12_conRead 114 = .ok (.ireturn, 1) := by decide +kernel
theorem dX12_isMoreOf_0 : decode cX12_isMoreOf 0 = .ok (.iload_n 1, 1) := by decide +kernel
theorem dX12_isMoreOf_1 : decode cX12_isMoreOf 1 = .ok (.istore_n 2, 1) := by decide +kernel
theorem dX12_isMoreOf_2 : decode cX12_isMoreOf 2 = .ok (.aload_n 0, 1) := by decide +kernel
theorem dX12_isMoreOf_3 : decode cX12_isMoreOf 3 = .ok (.getfield 36, 3) := by decide +kernel
theorem dX12_isMoreOf_6 : decode cX12_isMoreOf 6 = .ok (.ifCond .ne 175, 3) := by decide +kernel
theorem dX12_isMoreOf_9 : decode cX12_isMoreOf 9 = .ok (.aload_n 0, 1) := by decide +kernel
theorem dX12_isMoreOf_10 : decode cX12_isMoreOf 10 = .ok (.dup, 1) := by decide +kernel
theorem dX12_isMoreOf_11 : decode cX12_isMoreOf 11 = .ok (.getfield 143, 3) := by decide +kernel
theorem dX12_isMoreOf_14 : decode cX12_isMoreOf 14 = .ok (.iconst 1, 1) := by decide +kernel
theorem dX12_isMoreOf_15 : decode cX12_isMoreOf 15 = .ok (.isub, 1) := by decide +kernel
theorem dX12_isMoreOf_16 : decode cX12_isMoreOf 16 = .ok (.putfield 143, 3) := by decide +kernel
theorem dX12_isMoreOf_19 : decode cX12_isMoreOf 19 = .ok (.aload_n 0, 1) := by decide +kernel
theorem dX12_isMoreOf_20 : decode cX12_isMoreOf 20 = .ok (.getfield 143, 3) := by decide +kernel
theorem dX12_isMoreOf_23 : decode cX12_isMoreOf 23 = .ok (.ifCond .ne 12, 3) := by decide +kernel
theorem dX12_isMoreOf_26 : decode cX12_isMoreOf 26 = .ok (.aload_n 0, 1) := by decide +kernel
theorem dX12_isMoreOf_27 : decode cX12_isMoreOf 27 = .ok (.getfield 134, 3) := by decide +kernel
theorem dX12_isMoreOf_30 : decode cX12_isMoreOf 30 = .ok (.iconst 0, 1) := by decide +kernel
theorem dX12_isMoreOf_31 : decode cX12_isMoreOf 31 = .ok (.iload_n 2, 1) := by decide +kernel
theorem dX12_isMoreOf_32 : decode cX12_isMoreOf 32 = .ok (.iastore, 1) := by decide +kernel
theorem dX12_isMoreOf_33 : decode cX12_isMoreOf 33 = .ok (.iconst 0, 1) := by decide +kernel
theorem dX12_isMoreOf_34 : decode cX12_isMoreOf 34 = .ok (.ireturn, 1) := by decide +kernel
theorem dX12_isMoreOf_35 : decode cX12_isMoreOf 35 = .ok (.bipush 24, 2) := by decide +kernel
theorem dX12_isMoreOf_37 : decode cX12_isMoreOf 37 = .ok (.aload_n 0, 1) := by decide +kernel
theorem dX12_isMoreOf_38 : decode cX12_isMoreOf 38 = .ok (.getfield 51, 3) := by decide +kernel
theorem dX12_isMoreOf_41 : decode cX12_isMoreOf 41 = .ok (.imul, 1) := by decide +kernel
theorem dX12_isMoreOf_42 : decode cX12_isMoreOf 42 = .ok (.aload_n 0, 1) := by decide +kernel
theorem dX12_isMoreOf_43 : decode cX12_isMoreOf 43 = .ok (.getfield 137, 3) := by decide +kernel
theorem dX12_isMoreOf_46 : decode cX12_isMoreOf 46 = .ok (.aload_n 0, 1) := by decide +kernel
theorem dX12_isMoreOf_47 : decode cX12_isMoreOf 47 = .ok (.getfield 143, 3) := by decide +kernel
theorem dX12_isMoreOf_50 : decode cX12_isMoreOf 50 = .ok (.iaload, 1) := by decide +kernel
theorem dX12_isMoreOf_51 : decode cX12_isMoreOf 51 = .ok (.iadd, 1) := by decide +kernel
theorem dX12_isMoreOf_52 : decode cX12_isMoreOf 52 = .ok (.istore_n 3, 1) := by decide +kernel
theorem dX12_isMoreOf_53 : decode cX12_isMoreOf 53 = .ok (.aload_n 0, 1) := by decide +kernel
theorem dX12_isMoreOf_54 : decode cX12_isMoreOf 54 = .ok (.getfield 140, 3) := by decide +kernel
theorem dX12_isMoreOf_57 : decode cX12_isMoreOf 57 = .ok (.aload_n 0, 1) := by decide +kernel
theorem dX12_isMoreOf_58 : decode cX12_isMoreOf 58 = .ok (.getfield 143, 3) := by decide +kernel
theorem dX12_isMoreOf_61 : decode cX12_isMoreOf 61 = .ok (.iaload, 1) := by decide +kernel
theorem dX12_isMoreOf_62 : decode cX12_isMoreOf 62 = .ok (.istore 4, 2) := by decide +kernel
theorem dX12_isMoreOf_64 : decode cX12_isMoreOf 64 = .ok (.aload_n 0, 1) := by decide +kernel
theorem dX12_isMoreOf_65 : decode cX12_isMoreOf 65 = .ok (.getfield 134, 3) := by decide +kernel
theorem dX12_isMoreOf_68 : decode cX12_isMoreOf 68 = .ok (.aload_n 0, 1) := by decide +kernel
theorem dX12_isMoreOf_69 : decode cX12_isMoreOf 69 = .ok (.getfield 143, 3) := by decide +kernel
theorem dX12_isMoreOf_72 : decode cX12_isMoreOf 72 = .ok (.aload_n 0, 1) := by decide +kernel
theorem dX12_isMoreOf_73 : decode cX12_isMoreOf 73 = .ok (.getfield 134, 3) := by decide +kernel
theorem dX12_isMoreOf_76 : decode cX12_isMoreOf 76 = .ok (.aload_n 0, 1) := by decide +kernel
theorem dX12_isMoreOf_77 : decode cX12_isMoreOf 77 = .ok (.getfield 143, 3) := by decide +kernel
theorem dX12_isMoreOf_80 : decode cX12_isMoreOf 80 = .ok (.iaload, 1) := by decide +kernel
theorem dX12_isMoreOf_81 : decode cX12_isMoreOf 81 = .ok (.aload_n 0, 1) := by decide +kernel
theorem dX12_isMoreOf_82 : decode cX12_isMoreOf 82 = .ok (.aload_n 0, 1) := by decide +kernel
theorem dX12_isMoreOf_83 : decode cX12_isMoreOf 83 = .ok (.getfield 51, 3) := by decide +kernel
theorem dX12_isMoreOf_86 : decode cX12_isMoreOf 86 = .ok (.aload_n 0, 1) := by decide +kernel
theorem dX12_isMoreOf_87 : decode cX12_isMoreOf 87 = .ok (.getfield 72, 3) := by decide +kernel
theorem dX12_isMoreOf_90 : decode cX12_isMoreOf 90 = .ok (.iconst 2, 1) := by decide +kernel
theorem dX12_isMoreOf_91 : decode cX12_isMoreOf 91 = .ok (.iload_n 3, 1) := by decide +kernel
theorem dX12_isMoreOf_92 : decode cX12_isMoreOf 92 = .ok (.imul, 1) := by decide +kernel
theorem dX12_isMoreOf_93 : decode cX12_isMoreOf 93 = .ok (.iload 4, 2) := by decide +kernel
theorem dX12_isMoreOf_95 : decode cX12_isMoreOf 95 = .ok (.iadd, 1) := by decide +kernel
theorem dX12_isMoreOf_96 : decode cX12_isMoreOf 96 = .ok (.iaload, 1) := by decide +kernel
theorem dX12_isMoreOf_97 : decode cX12_isMoreOf 97 = .ok (.invokevirtual 396, 3) := by decide +kernel
theorem dX12_isMoreOf_100 : decode cX12_isMoreOf 100 = .ok (.imul, 1) := by decide +kernel
theorem dX12_isMoreOf_101 : decode cX12_isMoreOf 101 = .ok (.iload_n 2, 1) := by decide +kernel
theorem dX12_isMoreOf_102 : decode cX12_isMoreOf 102 = .ok (.iadd, 1) := by decide +kernel
theorem dX12_isMoreOf_103 : decode cX12_isMoreOf 103 = .ok (.iastore, 1) := by decide +kernel
theorem dX12_isMoreOf_104 : decode cX12_isMoreOf 104 = .ok (.iload 4, 2) := by decide +kernel
theorem dX12_isMoreOf_106 : decode cX12_isMoreOf 106 = .ok (.iconst 1, 1) := by decide +kernel
theorem dX12_isMoreOf_107 : decode cX12_isMoreOf 107 = .ok (.iadd, 1) := by decide +kernel
theorem dX12_isMoreOf_108 : decode cX12_isMoreOf 108 = .ok (.aload_n 0, 1) := by decide +kernel
theorem dX12_isMoreOf_109 : decode cX12_isMoreOf 109 = .ok (.getfield 69, 3) := by decide +kernel
theorem dX12_isMoreOf_112 : decode cX12_isMoreOf 112 = .ok (.iload_n 3, 1) := by decide +kernel
theorem dX12_isMoreOf_113 : decode cX12_isMoreOf 113 = .ok (.iaload, 1) := by decide +kernel
theorem dX12_isMoreOf_114 : decode cX12_isMoreOf 114 = .ok (.if_icmp .ge 41, 3) := by decide +kernel
theorem dX12_isMoreOf_117 : decode cX12_isMoreOf 117 = .ok (.aload_n 0, 1) := by decide +kernel
theorem dX12_isMoreOf_118 : decode cX12_isMoreOf 118 = .ok (.bipush 44, 2) := by decide +kernel
theorem dX12_isMoreOf_120 : decode cX12_isMoreOf 120 = .ok (.invokevirtual 413, 3) := by decide +kernel
theorem dX12_isMoreOf_123 : decode cX12_isMoreOf 123 = .ok (.aload_n 0, 1) := by decide +kernel
theorem dX12_isMoreOf_124 : decode cX12_isMoreOf 124 = .ok (.getfield 140, 3) := by decide +kernel
theorem dX12_isMoreOf_127 : decode cX12_isMoreOf 127 = .ok (.aload_n 0, 1) := by decide +kernel
theorem dX12_isMoreOf_128 : decode cX12_isMoreOf 128 = .ok (.getfield 143, 3) := by decide +kernel
theorem dX12_isMoreOf_131 : decode cX12_isMoreOf 131 = .ok (.iload 4, 2) := by decide +kernel
theorem dX12_isMoreOf_133 : decode cX12_isMoreOf 133 = .ok (.iconst 1, 1) := by decide +kernel
theorem dX12_isMoreOf_134 : decode cX12_isMoreOf 134 = .ok (.iadd, 1) := by decide +kernel
theorem dX12_isMoreOf_135 : decode cX12_isMoreOf 135 = .ok (.iastore, 1) := by decide +kernel
theorem dX12_isMoreOf_136 : decode cX12_isMoreOf 136 = .ok (.aload_n 0, 1) := by decide +kernel
theorem dX12_isMoreOf_137 : decode cX12_isMoreOf 137 = .ok (.aload_n 0, 1) := by decide +kernel
theorem dX12_isMoreOf_138 : decode cX12_isMoreOf 138 = .ok (.getfield 72, 3) := by decide +kernel
theorem dX12_isMoreOf_141 : decode cX12_isMoreOf 141 = .ok (.iconst 2, 1) := by decide +kernel
theorem dX12_isMoreOf_142 : decode cX12_isMoreOf 142 = .ok (.iload_n 3, 1) := by decide +kernel
theorem dX12_isMoreOf_143 : decode cX12_isMoreOf 143 = .ok (.imul, 1) := by decide +kernel
theorem dX12_isMoreOf_144 : decode cX12_isMoreOf 144 = .ok (.iload 4, 2) := by decide +kernel
theorem dX12_isMoreOf_146 : decode cX12_isMoreOf 146 = .ok (.iadd, 1) := by decide +kernel
theorem dX12_isMoreOf_147 : decode cX12_isMoreOf 147 = .ok (.iconst 1, 1) := by decide +kernel
theorem dX12_isMoreOf_148 : decode cX12_isMoreOf 148 = .ok (.iadd, 1) := by decide +kernel
theorem dX12_isMoreOf_149 : decode cX12_isMoreOf 149 = .ok (.iaload, 1) := by decide +kernel
theorem dX12_isMoreOf_150 : decode cX12_isMoreOf 150 = .ok (.invokevirtual 404, 3) := by decide +kernel
theorem dX12_isMoreOf_153 : decode cX12_isMoreOf 153 = .ok (.iconst 1, 1) := by decide +kernel
theorem dX12_isMoreOf_154 : decode cX12_isMoreOf 154 = .ok (.ireturn, 1) := by decide +kernel
theorem dX12_isMoreOf_155 : decode cX12_isMoreOf 155 = .ok (.aload_n 0, 1) := by decide +kernel
theorem dX12_isMoreOf_156 : decode cX12_isMoreOf 156 = .ok (.bipush 41, 2) := by decide +kernel
theorem dX12_isMoreOf_158 : decode cX12_isMoreOf 158 = .ok (.invokevirtual 413, 3) := by decide +kernel
theorem dX12_isMoreOf_161 : decode cX12_isMoreOf 161 = .ok (.aload_n 0, 1) := by decide +kernel
theorem dX12_isMoreOf_162 : decode cX12_isMoreOf 162 = .ok (.getfield 75, 3) := by decide +kernel
theorem dX12_isMoreOf_165 : decode cX12_isMoreOf 165 = .ok (.iload_n 3, 1) := by decide +kernel
theorem dX12_isMoreOf_166 : decode cX12_isMoreOf 166 = .ok (.iaload, 1) := by decide +kernel
theorem dX12_isMoreOf_167 : decode cX12_isMoreOf 167 = .ok (.aload_n 0, 1) := by decide +kernel
theorem dX12_isMoreOf_168 : decode cX12_isMoreOf 168 = .ok (.getfield 134, 3) := by decide +kernel
theorem dX12_isMoreOf_171 : decode cX12_isMoreOf 171 = .ok (.aload_n 0, 1) := by decide +kernel
theorem dX12_isMoreOf_172 : decode cX12_isMoreOf 172 = .ok (.getfield 143, 3) := by decide +kernel
theorem dX12_isMoreOf_175 : decode cX12_isMoreOf 175 = .ok (.iaload, 1) := by decide +kernel
