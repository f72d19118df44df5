theorem dX11_rowsTaken_42 : decode cX11_rowsTaken 42 = .ok (.iload_n 1, 1) := by decide +kernel
theorem dX11_rowsTaken_43 : decode cX11_rowsTaken 43 = .ok (.if_icmp .ne 15, 3) := by decide +kernel
theorem dX11_rowsTaken_46 : decode cX11_rowsTaken 46 = .ok (.iload_n 2, 1) := by decide +kernel
theorem dX11_rowsTaken_47 : decode cX11_rowsTaken 47 = .ok (.aload_n 0, 1) := by decide +kernel
theorem dX11_rowsTaken_48 : decode cX11_rowsTaken 48 = .ok (.getfield 33, 3) := by decide +kernel
theorem dX11_rowsTaken_51 : decode cX11_rowsTaken 51 = .ok (.getfield 238, 3) := by decide +kernel
theorem dX11_rowsTaken_54 : decode cX11_rowsTaken 54 = .ok (.iload_n 3, 1) := by decide +kernel
theorem dX11_rowsTaken_55 : decode cX11_rowsTaken 55 = .ok (.iaload, 1) := by decide +kernel
theorem dX11_rowsTaken_56 : decode cX11_rowsTaken 56 = .ok (.iadd, 1) := by decide +kernel
theorem dX11_rowsTaken_57 : decode cX11_rowsTaken 57 = .ok (.istore_n 2, 1) := by decide +kernel
theorem dX11_rowsTaken_58 : decode cX11_rowsTaken 58 = .ok (.iinc 3 1, 3) := by decide +kernel
theorem dX11_rowsTaken_61 : decode cX11_rowsTaken 61 = .ok (.goto (-57), 3) := by decide +kernel
theorem dX11_rowsTaken_64 : decode cX11_rowsTaken 64 = .ok (.iload_n 2, 1) := by decide +kernel
theorem dX11_rowsTaken_65 : decode cX11_rowsTaken 65 = .ok (.ireturn, 1) := by decide +kernel
theorem dX11_fits_0 : decode cX11_fits 0 = .ok (.aload_n 0, 1) := by decide +kernel
theorem dX11_fits_1 : decode cX11_fits 1 = .ok (.getfield 43, 3) := by decide +kernel
theorem dX11_fits_4 : decode cX11_fits 4 = .ok (.iload_n 1, 1) := by decide +kernel
theorem dX11_fits_5 : decode cX11_fits 5 = .ok (.invokevirtual 212, 3) := by decide +kernel
theorem dX11_fits_8 : decode cX11_fits 8 = .ok (.istore 4, 2) := by decide +kernel
theorem dX11_fits_10 : decode cX11_fits 10 = .ok (.iload 4, 2) := by decide +kernel
theorem dX11_fits_12 : decode cX11_fits 12 = .ok (.iconst (-1), 1) := by decide +kernel
theorem dX11_fits_13 : decode cX11_fits 13 = .ok (.if_icmp .eq 18, 3) := by decide +kernel
theorem dX11_fits_16 : decode cX11_fits 16 = .ok (.iload_n 2, 1) := by decide +kernel
theorem dX11_fits_17 : decode cX11_fits 17 = .ok (.ifCond .lt 14, 3) := by decide +kernel
theorem dX11_fits_20 : decode cX11_fits 20 = .ok (.iload_n 2, 1) := by decide +kernel
theorem dX11_fits_21 : decode cX11_fits 21 = .ok (.aload_n 0, 1) := by decide +kernel
theorem dX11_fits_22 : decode cX11_fits 22 = .ok (.getfield 71, 3) := by decide +kernel
theorem dX11_fits_25 : decode cX11_fits 25 = .ok (.getfield 130, 3) := by decide +kernel
theorem dX11_fits_28 : decode cX11_fits 28 = .ok (.if_icmp .lt 5, 3) := by decide +kernel
theorem dX11_fits_31 : decode cX11_fits 31 = .ok (.iconst (-1), 1) := by decide +kernel
theorem dX11_fits_32 : decode cX11_fits 32 = .ok (.ireturn, 1) := by decide +kernel
theorem dX11_fits_33 : decode cX11_fits 33 = .ok (.iload_n 3, 1) := by decide +kernel
theorem dX11_fits_34 : decode cX11_fits 34 = .ok (.ifCond .lt 16, 3) := by decide +kernel
theorem dX11_fits_37 : decode cX11_fits 37 = .ok (.iload_n 3, 1) := by decide +kernel
theorem dX11_fits_38 : decode cX11_fits 38 = .ok (.aload_n 0, 1) := by decide +kernel
theorem dX11_fits_39 : decode cX11_fits 39 = .ok (.getfield 71, 3) := by decide +kernel
theorem dX11_fits_42 : decode cX11_fits 42 = .ok (.getfield 245, 3) := by decide +kernel
theorem dX11_fits_45 : decode cX11_fits 45 = .ok (.iload_n 2, 1) := by decide +kernel
theorem dX11_fits_46 : decode cX11_fits 46 = .ok (.iaload, 1) := by decide +kernel
theorem dX11_fits_47 : decode cX11_fits 47 = .ok (.if_icmp .lt 5, 3) := by decide +kernel
theorem dX11_fits_50 : decode cX11_fits 50 = .ok (.iconst (-1), 1) := by decide +kernel
theorem dX11_fits_51 : decode cX11_fits 51 = .ok (.ireturn, 1) := by decide +kernel
theorem dX11_fits_52 : decode cX11_fits 52 = .ok (.aload_n 0, 1) := by decide +kernel
theorem dX11_fits_53 : decode cX11_fits 53 = .ok (.getfield 71, 3) := by decide +kernel
theorem dX11_fits_56 : decode cX11_fits 56 = .ok (.iload_n 2, 1) := by decide +kernel
theorem dX11_fits_57 : decode cX11_fits 57 = .ok (.iload_n 3, 1) := by decide +kernel
theorem dX11_fits_58 : decode cX11_fits 58 = .ok (.invokevirtual 246, 3) := by decide +kernel
theorem dX11_fits_61 : decode cX11_fits 61 = .ok (.iload 4, 2) := by decide +kernel
theorem dX11_fits_63 : decode cX11_fits 63 = .ok (.invokestatic 234, 3) := by decide +kernel
theorem dX11_fits_66 : decode cX11_fits 66 = .ok (.ifCond .eq 7, 3) := by decide +kernel
theorem dX11_fits_69 : decode cX11_fits 69 = .ok (.iconst 1, 1) := by decide +kernel
theorem dX11_fits_70 : decode cX11_fits 70 = .ok (.goto 4, 3) := by decide +kernel
theorem dX11_fits_73 : decode cX11_fits 73 = .ok (.iconst 0, 1) := by decide +kernel
theorem dX11_fits_74 : decode cX11_fits 74 = .ok (.ireturn, 1) := by decide +kernel
theorem dX11_holds_0 : decode cX11_holds 0 = .ok (.aload_n 0, 1) := by decide +kernel
theorem dX11_holds_1 : decode cX11_holds 1 = .ok (.getfield 43, 3) := by decide +kernel
theorem dX11_holds_4 : decode cX11_holds 4 = .ok (.iload_n 1, 1) := by decide +kernel
theorem dX11_holds_5 : decode cX11_holds 5 = .ok (.invokevirtual 212, 3) := by decide +kernel
theorem dX11_holds_8 : decode cX11_holds 8 = .ok (.istore_n 3, 1) := by decide +kernel
theorem dX11_holds_9 : decode cX11_holds 9 = .ok (.aload_n 0, 1) := by decide +kernel
theorem dX11_holds_10 : decode cX11_holds 10 = .ok (.getfield 43, 3) := by decide +kernel
theorem dX11_holds_13 : decode cX11_holds 13 = .ok (.iload_n 2, 1) := by decide +kernel
theorem dX11_holds_14 : decode cX11_holds 14 = .ok (.invokevirtual 212, 3) := by decide +kernel
theorem dX11_holds_17 : decode cX11_holds 17 = .ok (.istore 4, 2) := by decide +kernel
theorem dX11_holds_19 : decode cX11_holds 19 = .ok (.iload_n 3, 1) := by decide +kernel
theorem dX11_holds_20 : decode cX11_holds 20 = .ok (.iconst (-1), 1) := by decide +kernel
theorem dX11_holds_21 : decode cX11_holds 21 = .ok (.if_icmp .eq 9, 3) := by decide +kernel
theorem dX11_holds_24 : decode cX11_holds 24 = .ok (.iload 4, 2) := by decide +kernel
theorem dX11_holds_26 : decode cX11_holds 26 = .ok (.iconst (-1), 1) := by decide +kernel
theorem dX11_holds_27 : decode cX11_holds 27 = .ok (.if_icmp .ne 5, 3) := by decide +kernel
theorem dX11_holds_30 : decode cX11_holds 30 = .ok (.iconst (-1), 1) := by decide +kernel
theorem dX11_holds_31 : decode cX11_holds 31 = .ok (.ireturn, 1) := by decide +kernel
theorem dX11_holds_32 : decode cX11_holds 32 = .ok (.iconst 0, 1) := by decide +kernel
theorem dX11_holds_33 : decode cX11_holds 33 = .ok (.istore 5, 2) := by decide +kernel
theorem dX11_holds_35 : decode cX11_holds 35 = .ok (.iload 5, 2) := by decide +kernel
theorem dX11_holds_37 : decode cX11_holds 37 = .ok (.aload_n 0, 1) := by decide +kernel
theorem dX11_holds_38 : decode cX11_holds 38 = .ok (.getfield 33, 3) := by decide +kernel
theorem dX11_holds_41 : decode cX11_holds 41 = .ok (.getfield 231, 3) := by decide +kernel
theorem dX11_holds_44 : decode cX11_holds 44 = .ok (.if_icmp .ge 42, 3) := by decide +kernel
theorem dX11_holds_47 : decode cX11_holds 47 = .ok (.aload_n 0, 1) := by decide +kernel
theorem dX11_holds_48 : decode cX11_holds 48 = .ok (.getfield 33, 3) := by decide +kernel
theorem dX11_holds_51 : decode cX11_holds 51 = .ok (.getfield 232, 3) := by decide +kernel
theorem dX11_holds_54 : decode cX11_holds 54 = .ok (.iload 5, 2) := by decide +kernel
theorem dX11_holds_56 : decode cX11_holds 56 = .ok (.iaload, 1) := by decide +kernel
theorem dX11_holds_57 : decode cX11_holds 57 = .ok (.istore 6, 2) := by decide +kernel
theorem dX11_holds_59 : decode cX11_holds 59 = .ok (.iload 6, 2) := by decide +kernel
theorem dX11_holds_61 : decode cX11_holds 61 = .ok (.iload 4, 2) := by decide +kernel
theorem dX11_holds_63 : decode cX11_holds 63 = .ok (.invokestatic 234, 3) := by decide +kernel
theorem dX11_holds_66 : decode cX11_holds 66 = .ok (.ifCond .eq 14, 3) := by decide +kernel
theorem dX11_holds_69 : decode cX11_holds 69 = .ok (.iload 6, 2) := by decide +kernel
theorem dX11_holds_71 : decode cX11_holds 71 = .ok (.iload_n 3, 1) := by decide +kernel
theorem dX11_holds_72 : decode cX11_holds 72 = .ok (.invokestatic 234, 3) := by decide +kernel
theorem dX11_holds_75 : decode cX11_holds 75 = .ok (.ifCond .ne 5, 3) := by decide +kernel
theorem dX11_holds_78 : decode cX11_holds 78 = .ok (.iconst 0, 1) := by decide +kernel
theorem dX11_holds_79 : decode cX11_holds 79 = .ok (.ireturn, 1) := by decide +kernel
theorem dX11_holds_80 : decode cX11_holds 80 = .ok (.iinc 5 1, 3) := by decide +kernel
theorem dX11_holds_83 : decode cX11_holds 83 = .ok (.goto (-48), 3) := by decide +kernel
theorem dX11_holds_86 : decode cX11_holds 86 = .ok (.iconst 1, 1) := by decide +kernel
theorem dX11_holds_87 : decode cX11_holds 87 = .ok (.ireturn, 1) := by decide +kernel
theorem dX11_missing_0 : decode cX11_missing 0 = .ok (.aload_n 0, 1) := by decide +kernel
theorem dX11_missing_1 : decode cX11_missing 1 = .ok (.invokevirtual 204, 3) := by decide +kernel
theorem dX11_missing_4 : decode cX11_missing 4 = .ok (.ifCond .eq 8, 3) := by decide +kernel
theorem dX11_missing_7 : decode cX11_missing 7 = .ok (.iload_n 1, 1) := by decide +kernel
theorem dX11_missing_8 : decode cX11_missing 8 = .ok (.iconst (-1), 1) := by decide +kernel
theorem dX11_missing_9 : decode cX11_missing 9 = .ok (.if_icmp .ge 5, 3) := by decide +kernel
theorem dX11_missing_12 : decode cX11_missing 12 = .ok (.iconst (-1), 1) := by decide +kernel
theorem dX11_missing_13 : decode cX11_missing 13 = .ok (.ireturn, 1) := by decide +kernel
theorem dX11_missing_14 : decode cX11_missing 14 = .ok (.aload_n 0, 1) := by decide +kernel
theorem dX11_missing_15 : decode cX11_missing 15 = .ok (.getfield 43, 3) := by decide +kernel
theorem dX11_missing_18 : decode cX11_missing 18 = .ok (.aload_n 0, 1) := by decide +kernel
theorem dX11_missing_19 : decode cX11_missing 19 = .ok (.getfield 71, 3) := by decide +kernel
theorem dX11_missing_22 : decode cX11_missing 22 = .ok (.aload_n 0, 1) := by decide +kernel
theorem dX11_missing_23 : decode cX11_missing 23 = .ok (.getfield 43, 3) := by decide +kernel
theorem dX11_missing_26 : decode cX11_missing 26 = .ok (.getfield 176, 3) := by decide +kernel
theorem dX11_missing_29 : decode cX11_missing 29 = .ok (.invokevirtual 227, 3) := by decide +kernel
theorem dX11_missing_32 : decode cX11_missing 32 = .ok (.istore_n 2, 1) := by decide +kernel
theorem dX11_missing_33 : decode cX11_missing 33 = .ok (.iload_n 1, 1) := by decide +kernel
theorem dX11_missing_34 : decode cX11_missing 34 = .ok (.iconst (-1), 1) := by decide +kernel
theorem dX11_missing_35 : decode cX11_missing 35 = .ok (.if_icmp .ne 11, 3) := by decide +kernel
theorem dX11_missing_38 : decode cX11_missing 38 = .ok (.aload_n 0, 1) := by decide +kernel
theorem dX11_missing_39 : decode cX11_missing 39 = .ok (.iload_n 2, 1) := by decide +kernel
theorem dX11_missing_40 : decode cX11_missing 40 = .ok (.invokevirtual 249, 3) := by decide +kernel
theorem dX11_missing_43 : decode cX11_missing 43 = .ok (.goto 9, 3) := by decide +kernel
theorem dX11_missing_46 : decode cX11_missing 46 = .ok (.aload_n 0, 1) := by decide +kernel
theorem dX11_missing_47 : decode cX11_missing 47 = .ok (.iload_n 2, 1) := by decide +kernel
theorem dX11_missing_48 : decode cX11_missing 48 = .ok (.iload_n 1, 1) := by decide +kernel
theorem dX11_missing_49 : decode cX11_missing 49 = .ok (.invokevirtual 252, 3) := by decide +kernel
theorem dX11_missing_52 : decode cX11_missing 52 = .ok (.ireturn, 1) := by decide +kernel
theorem dX11_countMissing_0 : decode cX11_countMissing 0 = .ok (.iconst 0, 1) := by decide +kernel
theorem dX11_countMissing_1 : decode cX11_countMissing 1 = .ok (.istore_n 2, 1) := by decide +kernel
theorem dX11_countMissing_2 : decode cX11_countMissing 2 = .ok (.iconst 0, 1) := by decide +kernel
theorem dX11_countMissing_3 : decode cX11_countMissing 3 = .ok (.istore_n 3, 1) := by decide +kernel
theorem dX11_countMissing_4 : decode cX11_countMissing 4 = .ok (.iload_n 3, 1) := by decide +kernel
theorem dX11_countMissing_5 : decode cX11_countMissing 5 = .ok (.aload_n 0, 1) := by decide +kernel
theorem dX11_countMissing_6 : decode cX11_countMissing 6 = .ok (.getfield 33, 3) := by decide +kernel
theorem dX11_countMissing_9 : decode cX11_countMissing 9 = .ok (.getfield 231, 3) := by decide +kernel
theorem dX11_countMissing_12 : decode cX11_countMissing 12 = .ok (.if_icmp .ge 35, 3) := by decide +kernel
theorem dX11_countMissing_15 : decode cX11_countMissing 15 = .ok (.aload_n 0, 1) := by decide +kernel
theorem dX11_countMissing_16 : decode cX11_countMissing 16 = .ok (.getfield 33, 3) := by decide +kernel
theorem dX11_countMissing_19 : decode cX11_countMissing 19 = .ok (.getfield 232, 3) := by decide +kernel
theorem dX11_countMissing_22 : decode cX11_countMissing 22 = .ok (.iload_n 3, 1) := by decide +kernel
theorem dX11_countMissing_23 : decode cX11_countMissing 23 = .ok (.iaload, 1) := by decide +kernel
theorem dX11_countMissing_24 : decode cX11_countMissing 24 = .ok (.iload_n 1, 1) := by decide +kernel
theorem dX11_countMissing_25 : decode cX11_countMissing 25 = .ok (.iand, 1) := by decide +kernel
theorem dX11_countMissing_26 : decode cX11_countMissing 26 = .ok (.ifCond .ne 15, 3) := by decide +kernel
theorem dX11_countMissing_29 : decode cX11_countMissing 29 = .ok (.iload_n 2, 1) := by decide +kernel
theorem dX11_countMissing_30 : decode cX11_countMissing 30 = .ok (.aload_n 0, 1) := by decide +kernel
theorem dX11_countMissing_31 : decode cX11_countMissing 31 = .ok (.getfield 33, 3) := by decide +kernel
theorem dX11_countMissing_34 : decode cX11_countMissing 34 = .ok (.getfield 238, 3) := by decide +kernel
theorem dX11_countMissing_37 : decode cX11_countMissing 37 = .ok (.iload_n 3, 1) := by decide +kernel
theorem dX11_countMissing_38 : decode cX11_countMissing 38 = .ok (.iaload, 1) := by decide +kernel
theorem dX11_countMissing_39 : decode cX11_countMissing 39 = .ok (.iadd, 1) := by decide +kernel
theorem dX11_countMissing_40 : decode cX11_countMissing 40 = .ok (.istore_n 2, 1) := by decide +kernel
theorem dX11_countMissing_41 : decode cX11_countMissing 41 = .ok (.iinc 3 1, 3) := by decide +kernel
theorem dX11_countMissing_44 : decode cX11_countMissing 44 = .ok (.goto (-40), 3) := by decide +kernel
theorem dX11_countMissing_47 : decode cX11_countMissing 47 = .ok (.iload_n 2, 1) := by decide +kernel
theorem dX11_countMissing_48 : decode cX11_countMissing 48 = .ok (.ireturn, 1) := by decide +kernel
theorem dX11_findMissing_0 : decode cX11_findMissing 0 = .ok (.iconst 0, 1) := by decide +kernel
theorem dX11_findMissing_1 : decode cX11_findMissing 1 = .ok (.istore_n 3, 1) := by decide +kernel
theorem dX11_findMissing_2 : decode cX11_findMissing 2 = .ok (.iconst 0, 1) := by decide +kernel
theorem dX11_findMissing_3 : decode cX11_findMissing 3 = .ok (.istore 4, 2) := by decide +kernel
theorem dX11_findMissing_5 : decode cX11_findMissing 5 = .ok (.iload 4, 2) := by decide +kernel
theorem dX11_findMissing_7 : decode cX11_findMissing 7 = .ok (.aload_n 0, 1) := by decide +kernel
theorem dX11_findMissing_8 : decode cX11_findMissing 8 = .ok (.getfield 71, 3) := by decide +kernel
theorem dX11_findMissing_11 : decode cX11_findMissing 11 = .ok (.getfield 173, 3) := by decide +kernel
theorem dX11_findMissing_14 : decode cX11_findMissing 14 = .ok (.if_icmp .ge 34, 3) := by decide +kernel
theorem dX11_findMissing_17 : decode cX11_findMissing 17 = .ok (.aload_n 0, 1) := by decide +kernel
theorem dX11_findMissing_18 : decode cX11_findMissing 18 = .ok (.getfield 71, 3) := by decide +kernel
theorem dX11_findMissing_21 : decode cX11_findMissing 21 = .ok (.iload 4, 2) := by decide +kernel
theorem dX11_findMissing_23 : decode cX11_findMissing 23 = .ok (.invokevirtual 255, 3) := by decide +kernel
theorem dX11_findMissing_26 : decode cX11_findMissing 26 = .ok (.iload_n 1, 1) := by decide +kernel
theorem dX11_findMissing_27 : decode cX11_findMissing 27 = .ok (.iand, 1) := by decide +kernel
theorem dX11_findMissing_28 : decode cX11_findMissing 28 = .ok (.ifCond .ne 14, 3) := by decide +kernel
theorem dX11_findMissing_31 : decode cX11_findMissing 31 = .ok (.iload_n 3, 1) := by decide +kernel
theorem dX11_findMissing_32 : decode cX11_findMissing 32 = .ok (.iload_n 2, 1) := by decide +kernel
theorem dX11_findMissing_33 : decode cX11_findMissing 33 = .ok (.if_icmp .ne 6, 3) := by decide +kernel
theorem dX11_findMissing_36 : decode cX11_findMissing 36 = .ok (.iload 4, 2) := by decide +kernel
theorem dX11_findMissing_38 : decode cX11_findMissing 38 = .ok (.ireturn, 1) := by decide +kernel
theorem dX11_findMissing_39 : decode cX11_findMissing 39 = .ok (.iinc 3 1, 3) := by decide +kernel
theorem dX11_findMissing_42 : decode cX11_findMissing 42 = .ok (.iinc 4 1, 3) := by decide +kernel
theorem dX11_findMissing_45 : decode cX11_findMissing 45 = .ok (.goto (-40), 3) := by decide +kernel
theorem dX11_findMissing_48 : decode cX11_findMissing 48 = .ok (.iconst (-1), 1) := by decide +kernel
theorem dX11_findMissing_49 : decode cX11_findMissing 49 = .ok (.ireturn, 1) := by decide +kernel
theorem dX11_taken_0 : decode cX11_taken 0 = .ok (.aload_n 0, 1) := by decide +kernel
theorem dX11_taken_1 : decode cX11_taken 1 = .ok (.getfield 71, 3) := by decide +kernel
theorem dX11_taken_4 : decode cX11_taken 4 = .ok (.iload_n 1, 1) := by decide +kernel
theorem dX11_taken_5 : decode cX11_taken 5 = .ok (.invokevirtual 258, 3) := by decide +kernel
theorem dX11_taken_8 : decode cX11_taken 8 = .ok (.ifCond .ne 5, 3) := by decide +kernel
theorem dX11_taken_11 : decode cX11_taken 11 = .ok (.iconst (-1), 1) := by decide +kernel
theorem dX11_taken_12 : decode cX11_taken 12 = .ok (.ireturn, 1) := by decide +kernel
theorem dX11_taken_13 : decode cX11_taken 13 = .ok (.aload_n 0, 1) := by decide +kernel
theorem dX11_taken_14 : decode cX11_taken 14 = .ok (.getfield 43, 3) := by decide +kernel
theorem dX11_taken_17 : decode cX11_taken 17 = .ok (.aload_n 0, 1) := by decide +kernel
theorem dX11_taken_18 : decode cX11_taken 18 = .ok (.getfield 71, 3) := by decide +kernel
theorem dX11_taken_21 : decode cX11_taken 21 = .ok (.aload_n 0, 1) := by decide +kernel
theorem dX11_taken_22 : decode cX11_taken 22 = .ok (.getfield 71, 3) := by decide +kernel
theorem dX11_taken_25 : decode cX11_taken 25 = .ok (.iload_n 1, 1) := by decide +kernel
theorem dX11_taken_26 : decode cX11_taken 26 = .ok (.invokevirtual 255, 3) := by decide +kernel
theorem dX11_taken_29 : decode cX11_taken 29 = .ok (.aload_n 0, 1) := by decide +kernel
theorem dX11_taken_30 : decode cX11_taken 30 = .ok (.getfield 43, 3) := by decide +kernel
theorem dX11_taken_33 : decode cX11_taken 33 = .ok (.getfield 177, 3) := by decide +kernel
theorem dX11_taken_36 : decode cX11_taken 36 = .ok (.invokevirtual 241, 3) := by decide +kernel
theorem dX11_taken_39 : decode cX11_taken 39 = .ok (.ireturn, 1) := by decide +kernel
theorem dX11_row_0 : decode cX11_row 0 = .ok (.aload_n 0, 1) := by decide +kernel
theorem dX11_row_1 : decode cX11_row 1 = .ok (.getfield 83, 3) := by decide +kernel
theorem dX11_row_4 : decode cX11_row 4 = .ok (.aload_n 0, 1) := by decide +kernel
theorem dX11_row_5 : decode cX11_row 5 = .ok (.getfield 14, 3) := by decide +kernel
theorem dX11_row_8 : decode cX11_row 8 = .ok (.aload_n 0, 1) := by decide +kernel
theorem dX11_row_9 : decode cX11_row 9 = .ok (.getfield 71, 3) := by decide +kernel
theorem dX11_row_12 : decode cX11_row 12 = .ok (.invokevirtual 261, 3) := by decide +kernel
theorem dX11_row_15 : decode cX11_row 15 = .ok (.istore_n 1, 1) := by decide +kernel
theorem dX11_row_16 : decode cX11_row 16 = .ok (.aload_n 0, 1) := by decide +kernel
theorem dX11_row_17 : decode cX11_row 17 = .ok (.getfield 14, 3) := by decide +kernel
theorem dX11_row_20 : decode cX11_row 20 = .ok (.iconst 0, 1) := by decide +kernel
theorem dX11_row_21 : decode cX11_row 21 = .ok (.putfield 100, 3) := by decide +kernel
theorem dX11_row_24 : decode cX11_row 24 = .ok (.iload_n 1, 1) := by decide +kernel
theorem dX11_row_25 : decode cX11_row 25 = .ok (.iconst (-1), 1) := by decide +kernel
theorem dX11_row_26 : decode cX11_row 26 = .ok (.if_icmp .ne 9, 3) := by decide +kernel
theorem dX11_row_29 : decode cX11_row 29 = .ok (.aload_n 0, 1) := by decide +kernel
theorem dX11_row_30 : decode cX11_row 30 = .ok (.iconst 1, 1) := by decide +kernel
theorem dX11_row_31 : decode cX11_row 31 = .ok (.invokevirtual 103, 3) := by decide +kernel
theorem dX11_row_34 : decode cX11_row 34 = .ok (.pop, 1) := by decide +kernel
theorem dX11_row_35 : decode cX11_row 35 = .ok (.iload_n 1, 1) := by decide +kernel
theorem dX11_row_36 : decode cX11_row 36 = .ok (.ireturn, 1) := by decide +kernel
theorem dX11_text_0 : decode cX11_text 0 = .ok (.aload_n 0, 1) := by decide +kernel
theorem dX11_text_1 : decode cX11_text 1 = .ok (.getfield 71, 3) := by decide +kernel
theorem dX11_text_4 : decode cX11_text 4 = .ok (.iload_n 1, 1) := by decide +kernel
theorem dX11_text_5 : decode cX11_text 5 = .ok (.invokevirtual 258, 3) := by decide +kernel
theorem dX11_text_8 : decode cX11_text 8 = .ok (.ifCond .ne 5, 3) := by decide +kernel
theorem dX11_text_11 : decode cX11_text 11 = .ok (.iconst (-1), 1) := by decide +kernel
theorem dX11_text_12 : decode cX11_text 12 = .ok (.ireturn, 1) := by decide +kernel
theorem dX11_text_13 : decode cX11_text 13 = .ok (.aload_n 0, 1) := by decide +kernel
theorem dX11_text_14 : decode cX11_text 14 = .ok (.getfield 18, 3) := by decide +kernel
theorem dX11_text_17 : decode cX11_text 17 = .ok (.iconst 0, 1) := by decide +kernel
theorem dX11_text_18 : decode cX11_text 18 = .ok (.putfield 100, 3) := by decide +kernel
theorem dX11_text_21 : decode cX11_text 21 = .ok (.iconst 0, 1) := by decide +kernel
theorem dX11_text_22 : decode cX11_text 22 = .ok (.istore_n 2, 1) := by decide +kernel
theorem dX11_text_23 : decode cX11_text 23 = .ok (.iload_n 2, 1) := by decide +kernel
theorem dX11_text_24 : decode cX11_text 24 = .ok (.aload_n 0, 1) := by decide +kernel
theorem dX11_text_25 : decode cX11_text 25 = .ok (.getfield 71, 3) := by decide +kernel
theorem dX11_text_28 : decode cX11_text 28 = .ok (.getfield 130, 3) := by decide +kernel
theorem dX11_text_31 : decode cX11_text 31 = .ok (.if_icmp .ge 55, 3) := by decide +kernel
theorem dX11_text_34 : decode cX11_text 34 = .ok (.iload_n 2, 1) := by decide +kernel
theorem dX11_text_35 : decode cX11_text 35 = .ok (.ifCond .le 12, 3) := by decide +kernel
theorem dX11_text_38 : decode cX11_text 38 = .ok (.aload_n 0, 1) := by decide +kernel
theorem dX11_text_39 : decode cX11_text 39 = .ok (.getfield 18, 3) := by decide +kernel
theorem dX11_text_42 : decode cX11_text 42 = .ok (.bipush 44, 2) := by decide +kernel
theorem dX11_text_44 : decode cX11_text 44 = .ok (.invokevirtual 264, 3) := by decide +kernel
theorem dX11_text_47 : decode cX11_text 47 = .ok (.aload_n 0, 1) := by decide +kernel
theorem dX11_text_48 : decode cX11_text 48 = .ok (.getfield 18, 3) := by decide +kernel
theorem dX11_text_51 : decode cX11_text 51 = .ok (.aload_n 0, 1) := by decide +kernel
theorem dX11_text_52 : decode cX11_text 52 = .ok (.getfield 71, 3) := by decide +kernel
theorem dX11_text_55 : decode cX11_text 55 = .ok (.getfield 162, 3) := by decide +kernel
theorem dX11_text_58 : decode cX11_text 58 = .ok (.aload_n 0, 1) := by decide +kernel
theorem dX11_text_59 : decode cX11_text 59 = .ok (.getfield 71, 3) := by decide +kernel
theorem dX11_text_62 : decode cX11_text 62 = .ok (.getfield 266, 3) := by decide +kernel
theorem dX11_text_65 : decode cX11_text 65 = .ok (.iload_n 2, 1) := by decide +kernel
theorem dX11_text_66 : decode cX11_text 66 = .ok (.iaload, 1) := by decide +kernel
theorem dX11_text_67 : decode cX11_text 67 = .ok (.aload_n 0, 1) := by decide +kernel
theorem dX11_text_68 : decode cX11_text 68 = .ok (.getfield 71, 3) := by decide +kernel
theorem dX11_text_71 : decode cX11_text 71 = .ok (.iload_n 1, 1) := by decide +kernel
theorem dX11_text_72 : decode cX11_text 72 = .ok (.iload_n 2, 1) := by decide +kernel
theorem dX11_text_73 : decode cX11_text 73 = .ok (.invokevirtual 269, 3) := by decide +kernel
theorem dX11_text_76 : decode cX11_text 76 = .ok (.iconst 0, 1) := by decide +kernel
theorem dX11_text_77 : decode cX11_text 77 = .ok (.invokestatic 272, 3) := by decide +kernel
theorem dX11_text_80 : decode cX11_text 80 = .ok (.iinc 2 1, 3) := by decide +kernel
theorem dX11_text_83 : decode cX11_text 83 = .ok (.goto (-60), 3) := by decide +kernel
theorem dX11_text_86 : decode cX11_text 86 = .ok (.aload_n 0, 1) := by decide +kernel
theorem dX11_text_87 : decode cX11_text 87 = .ok (.getfield 18, 3) := by decide +kernel
theorem dX11_text_90 : decode cX11_text 90 = .ok (.getfield 100, 3) := by decide +kernel
theorem dX11_text_93 : decode cX11_text 93 = .ok (.ireturn, 1) := by decide +kernel
theorem dX11_writeValue_0 : decode cX11_writeValue 0 = .ok (.iload_n 2, 1) := by decide +kernel
theorem dX11_writeValue_1 : decode cX11_writeValue 1 = .ok (.iconst (-1), 1) := by decide +kernel
theorem dX11_writeValue_2 : decode cX11_writeValue 2 = .ok (.if_icmp .ne 9, 3) := by decide +kernel
theorem dX11_writeValue_5 : decode cX11_writeValue 5 = .ok (.aload_n 0, 1) := by decide +kernel
theorem dX11_writeValue_6 : decode cX11_writeValue 6 = .ok (.iload_n 3, 1) := by decide +kernel
theorem dX11_writeValue_7 : decode cX11_writeValue 7 = .ok (.invokevirtual 276, 3) := by decide +kernel
theorem dX11_writeValue_10 : decode cX11_writeValue 10 = .ok (.return_, 1) := by decide +kernel
theorem dX11_writeValue_11 : decode cX11_writeValue 11 = .ok (.aload_n 1, 1) := by decide +kernel
theorem dX11_writeValue_12 : decode cX11_writeValue 12 = .ok (.iload_n 2, 1) := by decide +kernel
theorem dX11_writeValue_13 : decode cX11_writeValue 13 = .ok (.iload_n 3, 1) := by decide +kernel
theorem dX11_writeValue_14 : decode cX11_writeValue 14 = .ok (.invokevirtual 279, 3) := by decide +kernel
theorem dX11_writeValue_17 : decode cX11_writeValue 17 = .ok (.istore 5, 2) := by decide +kernel
theorem dX11_writeValue_19 : decode cX11_writeValue 19 = .ok (.iload 5, 2) := by decide +kernel
theorem dX11_writeValue_21 : decode cX11_writeValue 21 = .ok (.iconst (-1), 1) := by decide +kernel
theorem dX11_writeValue_22 : decode cX11_writeValue 22 = .ok (.if_icmp .eq 9, 3) := by decide +kernel
theorem dX11_writeValue_25 : decode cX11_writeValue 25 = .ok (.iload 4, 2) := by decide +kernel
theorem dX11_writeValue_27 : decode cX11_writeValue 27 = .ok (.iconst 4, 1) := by decide +kernel
theorem dX11_writeValue_28 : decode cX11_writeValue 28 = .ok (.if_icmp .le 4, 3) := by decide +kernel
theorem dX11_writeValue_31 : decode cX11_writeValue 31 = .ok (.return_, 1) := by decide +kernel
theorem dX11_writeValue_32 : decode cX11_writeValue 32 = .ok (.aload_n 0, 1) := by decide +kernel
theorem dX11_writeValue_33 : decode cX11_writeValue 33 = .ok (.aload_n 1, 1) := by decide +kernel
theorem dX11_writeValue_34 : decode cX11_writeValue 34 = .ok (.getfield 201, 3) := by decide +kernel
theorem dX11_writeValue_37 : decode cX11_writeValue 37 = .ok (.iload 5, 2) := by decide +kernel
theorem dX11_writeValue_39 : decode cX11_writeValue 39 = .ok (.iaload, 1) := by decide +kernel
theorem dX11_writeValue_40 : decode cX11_writeValue 40 = .ok (.invokevirtual 282, 3) := by decide +kernel
theorem dX11_writeValue_43 : decode cX11_writeValue 43 = .ok (.aload_n 1, 1) := by decide +kernel
theorem dX11_writeValue_44 : decode cX11_writeValue 44 = .ok (.iload 5, 2) := by decide +kernel
theorem dX11_writeValue_46 : decode cX11_writeValue 46 = .ok (.invokevirtual 285, 3) := by decide +kernel
theorem dX11_writeValue_49 : decode cX11_writeValue 49 = .ok (.istore 6, 2) := by decide +kernel
theorem dX11_writeValue_51 : decode cX11_writeValue 51 = .ok (.aload_n 1, 1) := by decide +kernel
theorem dX11_writeValue_52 : decode cX11_writeValue 52 = .ok (.getfield 288, 3) := by decide +kernel
theorem dX11_writeValue_55 : decode cX11_writeValue 55 = .ok (.iload 5, 2) := by decide +kernel
theorem dX11_writeValue_57 : decode cX11_writeValue 57 = .ok (.iaload, 1) := by decide +kernel
theorem dX11_writeValue_58 : decode cX11_writeValue 58 = .ok (.ifCond .eq 8, 3) := by decide +kernel
theorem dX11_writeValue_61 : decode cX11_writeValue 61 = .ok (.iload 6, 2) := by decide +kernel
theorem dX11_writeValue_63 : decode cX11_writeValue 63 = .ok (.ifCond .gt 4, 3) := by decide +kernel
theorem dX11_writeValue_66 : decode cX11_writeValue 66 = .ok (.return_, 1) := by decide +kernel
theorem dX11_writeValue_67 : decode cX11_writeValue 67 = .ok (.iload_n 3, 1) := by decide +kernel
theorem dX11_writeValue_68 : decode cX11_writeValue 68 = .ok (.aload_n 1, 1) := by decide +kernel
theorem dX11_writeValue_69 : decode cX11_writeValue 69 = .ok (.getfield 291, 3) := by decide +kernel
theorem dX11_writeValue_72 : decode cX11_writeValue 72 = .ok (.iload 5, 2) := by decide +kernel
theorem dX11_writeValue_74 : decode cX11_writeValue 74 = .ok (.iaload, 1) := by decide +kernel
theorem dX11_writeValue_75 : decode cX11_writeValue 75 = .ok (.isub, 1) := by decide +kernel
theorem dX11_writeValue_76 : decode cX11_writeValue 76 = .ok (.istore 7, 2) := by decide +kernel
theorem dX11_writeValue_78 : decode cX11_writeValue 78 = .ok (.aload_n 0, 1) := by decide +kernel
theorem dX11_writeValue_79 : decode cX11_writeValue 79 = .ok (.bipush 40, 2) := by decide +kernel
theorem dX11_writeValue_81 : decode cX11_writeValue 81 = .ok (.invokevirtual 264, 3) := by decide +kernel
theorem dX11_writeValue_84 : decode cX11_writeValue 84 = .ok (.aload_n 0, 1) := by decide +kernel
theorem dX11_writeValue_85 : decode cX11_writeValue 85 = .ok (.aload_n 1, 1) := by decide +kernel
theorem dX11_writeValue_86 : decode cX11_writeValue 86 = .ok (.aload_n 1, 1) := by decide +kernel
theorem dX11_writeValue_87 : decode cX11_writeValue 87 = .ok (.getfield 294, 3) := by decide +kernel
theorem dX11_writeValue_90 : decode cX11_writeValue 90 = .ok (.iload 5, 2) := by decide +kernel
theorem dX11_writeValue_92 : decode cX11_writeValue 92 = .ok (.iaload, 1) := by decide +kernel
theorem dX11_writeValue_93 : decode cX11_writeValue 93 = .ok (.iload 7, 2) := by decide +kernel
theorem dX11_writeValue_95 : decode cX11_writeValue 95 = .ok (.iload 6, 2) := by decide +kernel
theorem dX11_writeValue_97 : decode cX11_writeValue 97 = .ok (.idiv, 1) := by decide +kernel
theorem dX11_writeValue_98 : decode cX11_writeValue 98 = .ok (.iload 4, 2) := by decide +kernel
theorem dX11_writeValue_100 : decode cX11_writeValue 100 = .ok (.iconst 1, 1) := by decide +kernel
theorem dX11_writeValue_101 : decode cX11_writeValue 101 = .ok (.iadd, 1) := by decide +kernel
theorem dX11_writeValue_102 : decode cX11_writeValue 102 = .ok (.invokestatic 272, 3) := by decide +kernel
theorem dX11_writeValue_105 : decode cX11_writeValue 105 = .ok (.aload_n 1, 1) := by decide +kernel
theorem dX11_writeValue_106 : decode cX11_writeValue 106 = .ok (.getfield 288, 3) := by decide +kernel
theorem dX11_writeValue_109 : decode cX11_writeValue 109 = .ok (.iload 5, 2) := by decide +kernel
theorem dX11_writeValue_111 : decode cX11_writeValue 111 = .ok (.iaload, 1) := by decide +kernel
theorem dX11_writeValue_112 : decode cX11_writeValue 112 = .ok (.iconst 2, 1) := by decide +kernel
theorem dX11_writeValue_113 : decode cX11_writeValue 113 = .ok (.if_icmp .ne 30, 3) := by decide +kernel
theorem dX11_writeValue_116 : decode cX11_writeValue 116 = .ok (.aload_n 0, 1) := by decide +kernel
theorem dX11_writeValue_117 : decode cX11_writeValue 117 = .ok (.bipush 44, 2) := by decide +kernel
theorem dX11_writeValue_119 : decode cX11_writeValue 119 = .ok (.invokevirtual 264, 3) := by decide +kernel
theorem dX11_writeValue_122 : decode cX11_writeValue 122 = .ok (.aload_n 0, 1) := by decide +kernel
theorem dX11_writeValue_123 : decode cX11_writeValue 123 = .ok (.aload_n 1, 1) := by decide +kernel
theorem dX11_writeValue_124 : decode cX11_writeValue 124 = .ok (.aload_n 1, 1) := by decide +kernel
theorem dX11_writeValue_125 : decode cX11_writeValue 125 = .ok (.getfield 297, 3) := by decide +kernel
theorem dX11_writeValue_128 : decode cX11_writeValue 128 = .ok (.iload 5, 2) := by decide +kernel
theorem dX11_writeValue_130 : decode cX11_writeValue 130 = .ok (.iaload, 1) := by decide +kernel
theorem dX11_writeValue_131 : decode cX11_writeValue 131 = .ok (.iload 7, 2) := by decide +kernel
theorem dX11_writeValue_133 : decode cX11_writeValue 133 = .ok (.iload 6, 2) := by decide +kernel
theorem dX11_writeValue_135 : decode cX11_writeValue 135 = .ok (.irem, 1) := by decide +kernel
theorem dX11_writeValue_136 : decode cX11_writeValue 136 = .ok (.iload 4, 2) := by decide +kernel
theorem dX11_writeValue_138 : decode cX11_writeValue 138 = .ok (.iconst 1, 1) := by decide +kernel
theorem dX11_writeValue_139 : decode cX11_writeValue 139 = .ok (.iadd, 1) := by decide +kernel
theorem dX11_writeValue_140 : decode cX11_writeValue 140 = .ok (.invokestatic 272, 3) := by decide +kernel
theorem dX11_writeValue_143 : decode cX11_writeValue 143 = .ok (.aload_n 0, 1) := by decide +kernel
theorem dX11_writeValue_144 : decode cX11_writeValue 144 = .ok (.bipush 41, 2) := by decide +kernel
theorem dX11_writeValue_146 : decode cX11_writeValue 146 = .ok (.invokevirtual 264, 3) := by decide +kernel
theorem dX11_writeValue_149 : decode cX11_writeValue 149 = .ok (.return_, 1) := by decide +kernel
theorem dX11_octet_0 : decode cX11_octet 0 = .ok (.aload_n 0, 1) := by decide +kernel
theorem dX11_octet_1 : decode cX11_octet 1 = .ok (.getfield 18, 3) := by decide +kernel
theorem dX11_octet_4 : decode cX11_octet 4 = .ok (.iload_n 1, 1) := by decide +kernel
theorem dX11_octet_5 : decode cX11_octet 5 = .ok (.invokevirtual 300, 3) := by decide +kernel
theorem dX11_octet_8 : decode cX11_octet 8 = .ok (.ireturn, 1) := by decide +kernel
theorem dX11_tree_0 : decode cX11_tree 0 = .ok (.aload_n 0, 1) := by decide +kernel
theorem dX11_tree_1 : decode cX11_tree 1 = .ok (.invokevirtual 204, 3) := by decide +kernel
theorem dX11_tree_4 : decode cX11_tree 4 = .ok (.ifCond .eq 10, 3) := by decide +kernel
theorem dX11_tree_7 : decode cX11_tree 7 = .ok (.iload_n 1, 1) := by decide +kernel
theorem dX11_tree_8 : decode cX11_tree 8 = .ok (.invokestatic 303, 3) := by decide +kernel
theorem dX11_tree_11 : decode cX11_tree 11 = .ok (.ifCond .ne 5, 3) := by decide +kernel
theorem dX11_tree_14 : decode cX11_tree 14 = .ok (.iconst (-1), 1) := by decide +kernel
theorem dX11_tree_15 : decode cX11_tree 15 = .ok (.ireturn, 1) := by decide +kernel
theorem dX11_tree_16 : decode cX11_tree 16 = .ok (.aload_n 0, 1) := by decide +kernel
theorem dX11_tree_17 : decode cX11_tree 17 = .ok (.getfield 92, 3) := by decide +kernel
theorem dX11_tree_20 : decode cX11_tree 20 = .ok (.aload_n 0, 1) := by decide +kernel
theorem dX11_tree_21 : decode cX11_tree 21 = .ok (.getfield 43, 3) := by decide +kernel
theorem dX11_tree_24 : decode cX11_tree 24 = .ok (.iload_n 1, 1) := by decide +kernel
theorem dX11_tree_25 : decode cX11_tree 25 = .ok (.invokevirtual 306, 3) := by decide +kernel
theorem dX11_tree_28 : decode cX11_tree 28 = .ok (.lstore_n 3, 1) := by decide +kernel
theorem dX11_tree_29 : decode cX11_tree 29 = .ok (.iload_n 2, 1) := by decide +kernel
theorem dX11_tree_30 : decode cX11_tree 30 = .ok (.tableswitch 53 0 3 #[30, 35, 43, 48], 30) := by decide +kernel
theorem dX11_tree_60 : decode cX11_tree 60 = .ok (.lload_n 3, 1) := by decide +kernel
theorem dX11_tree_61 : decode cX11_tree 61 = .ok (.invokestatic 310, 3) := by decide +kernel
theorem dX11_tree_64 : decode cX11_tree 64 = .ok (.ireturn, 1) := by decide +kernel
theorem dX11_tree_65 : decode cX11_tree 65 = .ok (.aload_n 0, 1) := by decide +kernel
theorem dX11_tree_66 : decode cX11_tree 66 = .ok (.getfield 92, 3) := by decide +kernel
theorem dX11_tree_69 : decode cX11_tree 69 = .ok (.getfield 314, 3) := by decide +kernel
theorem dX11_tree_72 : decode cX11_tree 72 = .ok (.ireturn, 1) := by decide +kernel
theorem dX11_tree_73 : decode cX11_tree 73 = .ok (.lload_n 3, 1) := by decide +kernel
theorem dX11_tree_74 : decode cX11_tree 74 = .ok (.invokestatic 317, 3) := by decide +kernel
theorem dX11_tree_77 : decode cX11_tree 77 = .ok (.ireturn, 1) := by decide +kernel
theorem dX11_tree_78 : decode cX11_tree 78 = .ok (.lload_n 3, 1) := by decide +kernel
theorem dX11_tree_79 : decode cX11_tree 79 = .ok (.invokestatic 320, 3) := by decide +kernel
theorem dX11_tree_82 : decode cX11_tree 82 = .ok (.ireturn, 1) := by decide +kernel
theorem dX11_tree_83 : decode cX11_tree 83 = .ok (.iconst (-1), 1) := by decide +kernel
theorem dX11_tree_84 : decode cX11_tree 84 = .ok (.ireturn, 1) := by decide +kernel
theorem dX11_first_0 : decode cX11_first 0 = .ok (.aload_n 0, 1) := by decide +kernel
theorem dX11_first_1 : decode cX11_first 1 = .ok (.invokevirtual 204, 3) := by decide +kernel
theorem dX11_first_4 : decode cX11_first 4 = .ok (.ifCond .eq 10, 3) := by decide +kernel
theorem dX11_first_7 : decode cX11_first 7 = .ok (.iload_n 1, 1) := by decide +kernel
theorem dX11_first_8 : decode cX11_first 8 = .ok (.invokestatic 303, 3) := by decide +kernel
theorem dX11_first_11 : decode cX11_first 11 = .ok (.ifCond .ne 5, 3) := by decide +kernel
theorem dX11_first_14 : decode cX11_first 14 = .ok (.iconst (-1), 1) := by decide +kernel
theorem dX11_first_15 : decode cX11_first 15 = .ok (.ireturn, 1) := by decide +kernel
theorem dX11_first_16 : decode cX11_first 16 = .ok (.aload_n 0, 1) := by decide +kernel
theorem dX11_first_17 : decode cX11_first 17 = .ok (.getfield 92, 3) := by decide +kernel
theorem dX11_first_20 : decode cX11_first 20 = .ok (.aload_n 0, 1) := by decide +kernel
theorem dX11_first_21 : decode cX11_first 21 = .ok (.getfield 43, 3) := by decide +kernel
theorem dX11_first_24 : decode cX11_first 24 = .ok (.iload_n 1, 1) := by decide +kernel
theorem dX11_first_25 : decode cX11_first 25 = .ok (.invokevirtual 323, 3) := by decide +kernel
theorem dX11_first_28 : decode cX11_first 28 = .ok (.ireturn, 1) := by decide +kernel
theorem dX11_scopes_0 : decode cX11_scopes 0 = .ok (.aload_n 0, 1) := by decide +kernel
theorem dX11_scopes_1 : decode cX11_scopes 1 = .ok (.invokevirtual 204, 3) := by decide +kernel
theorem dX11_scopes_4 : decode cX11_scopes 4 = .ok (.ifCond .eq 10, 3) := by decide +kernel
theorem dX11_scopes_7 : decode cX11_scopes 7 = .ok (.iload_n 1, 1) := by decide +kernel
theorem dX11_scopes_8 : decode cX11_scopes 8 = .ok (.invokestatic 303, 3) := by decide +kernel
theorem dX11_scopes_11 : decode cX11_scopes 11 = .ok (.ifCond .ne 5, 3) := by decide +kernel
theorem dX11_scopes_14 : decode cX11_scopes 14 = .ok (.iconst (-1), 1) := by decide +kernel
theorem dX11_scopes_15 : decode cX11_scopes 15 = .ok (.ireturn, 1) := by decide +kernel
theorem dX11_scopes_16 : decode cX11_scopes 16 = .ok (.aload_n 0, 1) := by decide +kernel
theorem dX11_scopes_17 : decode cX11_scopes 17 = .ok (.getfield 92, 3) := by decide +kernel
theorem dX11_scopes_20 : decode cX11_scopes 20 = .ok (.aload_n 0, 1) := by decide +kernel
theorem dX11_scopes_21 : decode cX11_scopes 21 = .ok (.getfield 43, 3) := by decide +kernel
theorem dX11_scopes_24 : decode cX11_scopes 24 = .ok (.iload_n 1, 1) := by decide +kernel
theorem dX11_scopes_25 : decode cX11_scopes 25 = .ok (.invokevirtual 327, 3) := by decide +kernel
theorem dX11_scopes_28 : decode cX11_scopes 28 = .ok (.iload_n 2, 1) := by decide +kernel
theorem dX11_scopes_29 : decode cX11_scopes 29 = .ok (.tableswitch 72 0 3 #[31, 39, 47, 63], 31) := by decide +kernel
theorem dX11_scopes_60 : decode cX11_scopes 60 = .ok (.aload_n 0, 1) := by decide +kernel
theorem dX11_scopes_61 : decode cX11_scopes 61 = .ok (.getfield 92, 3) := by decide +kernel
theorem dX11_scopes_64 : decode cX11_scopes 64 = .ok (.getfield 331, 3) := by decide +kernel
theorem dX11_scopes_67 : decode cX11_scopes 67 = .ok (.ireturn, 1) := by decide +kernel
theorem dX11_scopes_68 : decode cX11_scopes 68 = .ok (.aload_n 0, 1) := by decide +kernel
