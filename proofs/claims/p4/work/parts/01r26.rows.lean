theorem dX12_scopes_26 : decode cX12_scopes 26 = .ok (.ireturn, 1) := by decide +kernel
theorem dX12_scopes_27 : decode cX12_scopes 27 = .ok (.aload_n 0, 1) := by decide +kernel
theorem dX12_scopes_28 : decode cX12_scopes 28 = .ok (.iconst 0, 1) := by decide +kernel
theorem dX12_scopes_29 : decode cX12_scopes 29 = .ok (.iload_n 1, 1) := by decide +kernel
theorem dX12_scopes_30 : decode cX12_scopes 30 = .ok (.invokevirtual 581, 3) := by decide +kernel
theorem dX12_scopes_33 : decode cX12_scopes 33 = .ok (.aload_n 0, 1) := by decide +kernel
theorem dX12_scopes_34 : decode cX12_scopes 34 = .ok (.invokevirtual 605, 3) := by decide +kernel
theorem dX12_scopes_37 : decode cX12_scopes 37 = .ok (.iload_n 2, 1) := by decide +kernel
theorem dX12_scopes_38 : decode cX12_scopes 38 = .ok (.iconst 3, 1) := by decide +kernel
theorem dX12_scopes_39 : decode cX12_scopes 39 = .ok (.if_icmp .ne 28, 3) := by decide +kernel
theorem dX12_scopes_42 : decode cX12_scopes 42 = .ok (.iload_n 3, 1) := by decide +kernel
theorem dX12_scopes_43 : decode cX12_scopes 43 = .ok (.iconst 0, 1) := by decide +kernel
theorem dX12_scopes_44 : decode cX12_scopes 44 = .ok (.aload_n 0, 1) := by decide +kernel
theorem dX12_scopes_45 : decode cX12_scopes 45 = .ok (.getfield 279, 3) := by decide +kernel
theorem dX12_scopes_48 : decode cX12_scopes 48 = .ok (.iconst 1, 1) := by decide +kernel
theorem dX12_scopes_49 : decode cX12_scopes 49 = .ok (.isub, 1) := by decide +kernel
theorem dX12_scopes_50 : decode cX12_scopes 50 = .ok (.invokestatic 362, 3) := by decide +kernel
theorem dX12_scopes_53 : decode cX12_scopes 53 = .ok (.ifCond .eq 12, 3) := by decide +kernel
theorem dX12_scopes_56 : decode cX12_scopes 56 = .ok (.aload_n 0, 1) := by decide +kernel
theorem dX12_scopes_57 : decode cX12_scopes 57 = .ok (.getfield 273, 3) := by decide +kernel
theorem dX12_scopes_60 : decode cX12_scopes 60 = .ok (.iload_n 3, 1) := by decide +kernel
theorem dX12_scopes_61 : decode cX12_scopes 61 = .ok (.iaload, 1) := by decide +kernel
theorem dX12_scopes_62 : decode cX12_scopes 62 = .ok (.goto 4, 3) := by decide +kernel
theorem dX12_scopes_65 : decode cX12_scopes 65 = .ok (.iconst (-1), 1) := by decide +kernel
theorem dX12_scopes_66 : decode cX12_scopes 66 = .ok (.ireturn, 1) := by decide +kernel
theorem dX12_scopes_67 : decode cX12_scopes 67 = .ok (.iload_n 2, 1) := by decide +kernel
theorem dX12_scopes_68 : decode cX12_scopes 68 = .ok (.ifCond .ne 10, 3) := by decide +kernel
theorem dX12_scopes_71 : decode cX12_scopes 71 = .ok (.aload_n 0, 1) := by decide +kernel
theorem dX12_scopes_72 : decode cX12_scopes 72 = .ok (.getfield 276, 3) := by decide +kernel
theorem dX12_scopes_75 : decode cX12_scopes 75 = .ok (.goto 27, 3) := by decide +kernel
theorem dX12_scopes_78 : decode cX12_scopes 78 = .ok (.iload_n 2, 1) := by decide +kernel
theorem dX12_scopes_79 : decode cX12_scopes 79 = .ok (.iconst 1, 1) := by decide +kernel
theorem dX12_scopes_80 : decode cX12_scopes 80 = .ok (.if_icmp .ne 10, 3) := by decide +kernel
theorem dX12_scopes_83 : decode cX12_scopes 83 = .ok (.aload_n 0, 1) := by decide +kernel
theorem dX12_scopes_84 : decode cX12_scopes 84 = .ok (.getfield 282, 3) := by decide +kernel
theorem dX12_scopes_87 : decode cX12_scopes 87 = .ok (.goto 15, 3) := by decide +kernel
theorem dX12_scopes_90 : decode cX12_scopes 90 = .ok (.aload_n 0, 1) := by decide +kernel
theorem dX12_scopes_91 : decode cX12_scopes 91 = .ok (.getfield 285, 3) := by decide +kernel
theorem dX12_scopes_94 : decode cX12_scopes 94 = .ok (.ifCond .eq 7, 3) := by decide +kernel
theorem dX12_scopes_97 : decode cX12_scopes 97 = .ok (.iconst 1, 1) := by decide +kernel
theorem dX12_scopes_98 : decode cX12_scopes 98 = .ok (.goto 4, 3) := by decide +kernel
theorem dX12_scopes_101 : decode cX12_scopes 101 = .ok (.iconst 0, 1) := by decide +kernel
theorem dX12_scopes_102 : decode cX12_scopes 102 = .ok (.ireturn, 1) := by decide +kernel
theorem dX12_swapped_0 : decode cX12_swapped 0 = .ok (.iload_n 0, 1) := by decide +kernel
theorem dX12_swapped_1 : decode cX12_swapped 1 = .ok (.iload_n 1, 1) := by decide +kernel
theorem dX12_swapped_2 : decode cX12_swapped 2 = .ok (.ishr, 1) := by decide +kernel
theorem dX12_swapped_3 : decode cX12_swapped 3 = .ok (.iconst 1, 1) := by decide +kernel
theorem dX12_swapped_4 : decode cX12_swapped 4 = .ok (.iand, 1) := by decide +kernel
theorem dX12_swapped_5 : decode cX12_swapped 5 = .ok (.iload_n 0, 1) := by decide +kernel
theorem dX12_swapped_6 : decode cX12_swapped 6 = .ok (.iload_n 2, 1) := by decide +kernel
theorem dX12_swapped_7 : decode cX12_swapped 7 = .ok (.ishr, 1) := by decide +kernel
theorem dX12_swapped_8 : decode cX12_swapped 8 = .ok (.iconst 1, 1) := by decide +kernel
theorem dX12_swapped_9 : decode cX12_swapped 9 = .ok (.iand, 1) := by decide +kernel
theorem dX12_swapped_10 : decode cX12_swapped 10 = .ok (.if_icmp .ne 5, 3) := by decide +kernel
theorem dX12_swapped_13 : decode cX12_swapped 13 = .ok (.iload_n 0, 1) := by decide +kernel
theorem dX12_swapped_14 : decode cX12_swapped 14 = .ok (.ireturn, 1) := by decide +kernel
theorem dX12_swapped_15 : decode cX12_swapped 15 = .ok (.iload_n 0, 1) := by decide +kernel
theorem dX12_swapped_16 : decode cX12_swapped 16 = .ok (.iconst 1, 1) := by decide +kernel
theorem dX12_swapped_17 : decode cX12_swapped 17 = .ok (.iload_n 1, 1) := by decide +kernel
theorem dX12_swapped_18 : decode cX12_swapped 18 = .ok (.ishl, 1) := by decide +kernel
theorem dX12_swapped_19 : decode cX12_swapped 19 = .ok (.iconst 1, 1) := by decide +kernel
theorem dX12_swapped_20 : decode cX12_swapped 20 = .ok (.iload_n 2, 1) := by decide +kernel
theorem dX12_swapped_21 : decode cX12_swapped 21 = .ok (.ishl, 1) := by decide +kernel
theorem dX12_swapped_22 : decode cX12_swapped 22 = .ok (.ior, 1) := by decide +kernel
theorem dX12_swapped_23 : decode cX12_swapped 23 = .ok (.ixor, 1) := by decide +kernel
theorem dX12_swapped_24 : decode cX12_swapped 24 = .ok (.ireturn, 1) := by decide +kernel
theorem dX12_moved_0 : decode cX12_moved 0 = .ok (.iload_n 0, 1) := by decide +kernel
theorem dX12_moved_1 : decode cX12_moved 1 = .ok (.iload_n 1, 1) := by decide +kernel
theorem dX12_moved_2 : decode cX12_moved 2 = .ok (.if_icmp .ne 7, 3) := by decide +kernel
theorem dX12_moved_5 : decode cX12_moved 5 = .ok (.iload_n 2, 1) := by decide +kernel
theorem dX12_moved_6 : decode cX12_moved 6 = .ok (.goto 13, 3) := by decide +kernel
theorem dX12_moved_9 : decode cX12_moved 9 = .ok (.iload_n 0, 1) := by decide +kernel
theorem dX12_moved_10 : decode cX12_moved 10 = .ok (.iload_n 2, 1) := by decide +kernel
theorem dX12_moved_11 : decode cX12_moved 11 = .ok (.if_icmp .ne 7, 3) := by decide +kernel
theorem dX12_moved_14 : decode cX12_moved 14 = .ok (.iload_n 1, 1) := by decide +kernel
theorem dX12_moved_15 : decode cX12_moved 15 = .ok (.goto 4, 3) := by decide +kernel
theorem dX12_moved_18 : decode cX12_moved 18 = .ok (.iload_n 0, 1) := by decide +kernel
theorem dX12_moved_19 : decode cX12_moved 19 = .ok (.ireturn, 1) := by decide +kernel
theorem dX12_isSafe_0 : decode cX12_isSafe 0 = .ok (.iconst 0, 1) := by decide +kernel
theorem dX12_isSafe_1 : decode cX12_isSafe 1 = .ok (.istore_n 3, 1) := by decide +kernel
theorem dX12_isSafe_2 : decode cX12_isSafe 2 = .ok (.iload_n 3, 1) := by decide +kernel
theorem dX12_isSafe_3 : decode cX12_isSafe 3 = .ok (.sipush 256, 3) := by decide +kernel
theorem dX12_isSafe_6 : decode cX12_isSafe 6 = .ok (.if_icmp .ge 95, 3) := by decide +kernel
theorem dX12_isSafe_9 : decode cX12_isSafe 9 = .ok (.aload_n 0, 1) := by decide +kernel
theorem dX12_isSafe_10 : decode cX12_isSafe 10 = .ok (.iload_n 3, 1) := by decide +kernel
theorem dX12_isSafe_11 : decode cX12_isSafe 11 = .ok (.invokevirtual 492, 3) := by decide +kernel
theorem dX12_isSafe_14 : decode cX12_isSafe 14 = .ok (.istore 4, 2) := by decide +kernel
theorem dX12_isSafe_16 : decode cX12_isSafe 16 = .ok (.iconst 0, 1) := by decide +kernel
theorem dX12_isSafe_17 : decode cX12_isSafe 17 = .ok (.istore 5, 2) := by decide +kernel
theorem dX12_isSafe_19 : decode cX12_isSafe 19 = .ok (.iload 5, 2) := by decide +kernel
theorem dX12_isSafe_21 : decode cX12_isSafe 21 = .ok (.sipush 4096, 3) := by decide +kernel
theorem dX12_isSafe_24 : decode cX12_isSafe 24 = .ok (.if_icmp .ge 71, 3) := by decide +kernel
theorem dX12_isSafe_27 : decode cX12_isSafe 27 = .ok (.aload_n 0, 1) := by decide +kernel
theorem dX12_isSafe_28 : decode cX12_isSafe 28 = .ok (.getfield 218, 3) := by decide +kernel
theorem dX12_isSafe_31 : decode cX12_isSafe 31 = .ok (.iload 5, 2) := by decide +kernel
theorem dX12_isSafe_33 : decode cX12_isSafe 33 = .ok (.iaload, 1) := by decide +kernel
theorem dX12_isSafe_34 : decode cX12_isSafe 34 = .ok (.ifCond .ne 6, 3) := by decide +kernel
theorem dX12_isSafe_37 : decode cX12_isSafe 37 = .ok (.goto 52, 3) := by decide +kernel
theorem dX12_isSafe_40 : decode cX12_isSafe 40 = .ok (.iload 5, 2) := by decide +kernel
theorem dX12_isSafe_42 : decode cX12_isSafe 42 = .ok (.iload 4, 2) := by decide +kernel
theorem dX12_isSafe_44 : decode cX12_isSafe 44 = .ok (.iand, 1) := by decide +kernel
theorem dX12_isSafe_45 : decode cX12_isSafe 45 = .ok (.invokestatic 495, 3) := by decide +kernel
theorem dX12_isSafe_48 : decode cX12_isSafe 48 = .ok (.istore 6, 2) := by decide +kernel
theorem dX12_isSafe_50 : decode cX12_isSafe 50 = .ok (.iload 5, 2) := by decide +kernel
theorem dX12_isSafe_52 : decode cX12_isSafe 52 = .ok (.iload 4, 2) := by decide +kernel
theorem dX12_isSafe_54 : decode cX12_isSafe 54 = .ok (.iand, 1) := by decide +kernel
theorem dX12_isSafe_55 : decode cX12_isSafe 55 = .ok (.iload_n 1, 1) := by decide +kernel
theorem dX12_isSafe_56 : decode cX12_isSafe 56 = .ok (.iload_n 2, 1) := by decide +kernel
theorem dX12_isSafe_57 : decode cX12_isSafe 57 = .ok (.invokestatic 608, 3) := by decide +kernel
theorem dX12_isSafe_60 : decode cX12_isSafe 60 = .ok (.invokestatic 495, 3) := by decide +kernel
theorem dX12_isSafe_63 : decode cX12_isSafe 63 = .ok (.istore 7, 2) := by decide +kernel
theorem dX12_isSafe_65 : decode cX12_isSafe 65 = .ok (.iload 6, 2) := by decide +kernel
theorem dX12_isSafe_67 : decode cX12_isSafe 67 = .ok (.iload 7, 2) := by decide +kernel
theorem dX12_isSafe_69 : decode cX12_isSafe 69 = .ok (.iconst (-1), 1) := by decide +kernel
theorem dX12_isSafe_70 : decode cX12_isSafe 70 = .ok (.if_icmp .ne 7, 3) := by decide +kernel
theorem dX12_isSafe_73 : decode cX12_isSafe 73 = .ok (.iconst (-1), 1) := by decide +kernel
theorem dX12_isSafe_74 : decode cX12_isSafe 74 = .ok (.goto 10, 3) := by decide +kernel
theorem dX12_isSafe_77 : decode cX12_isSafe 77 = .ok (.iload 7, 2) := by decide +kernel
theorem dX12_isSafe_79 : decode cX12_isSafe 79 = .ok (.iload_n 1, 1) := by decide +kernel
theorem dX12_isSafe_80 : decode cX12_isSafe 80 = .ok (.iload_n 2, 1) := by decide +kernel
theorem dX12_isSafe_81 : decode cX12_isSafe 81 = .ok (.invokestatic 611, 3) := by decide +kernel
theorem dX12_isSafe_84 : decode cX12_isSafe 84 = .ok (.if_icmp .eq 5, 3) := by decide +kernel
theorem dX12_isSafe_87 : decode cX12_isSafe 87 = .ok (.iconst 0, 1) := by decide +kernel
theorem dX12_isSafe_88 : decode cX12_isSafe 88 = .ok (.ireturn, 1) := by decide +kernel
theorem dX12_isSafe_89 : decode cX12_isSafe 89 = .ok (.iinc 5 1, 3) := by decide +kernel
theorem dX12_isSafe_92 : decode cX12_isSafe 92 = .ok (.goto (-73), 3) := by decide +kernel
theorem dX12_isSafe_95 : decode cX12_isSafe 95 = .ok (.iinc 3 1, 3) := by decide +kernel
theorem dX12_isSafe_98 : decode cX12_isSafe 98 = .ok (.goto (-96), 3) := by decide +kernel
theorem dX12_isSafe_101 : decode cX12_isSafe 101 = .ok (.iconst 1, 1) := by decide +kernel
theorem dX12_isSafe_102 : decode cX12_isSafe 102 = .ok (.ireturn, 1) := by decide +kernel
theorem dX12_safe_0 : decode cX12_safe 0 = .ok (.aload_n 0, 1) := by decide +kernel
theorem dX12_safe_1 : decode cX12_safe 1 = .ok (.iload_n 1, 1) := by decide +kernel
theorem dX12_safe_2 : decode cX12_safe 2 = .ok (.invokevirtual 498, 3) := by decide +kernel
theorem dX12_safe_5 : decode cX12_safe 5 = .ok (.ifCond .eq 11, 3) := by decide +kernel
theorem dX12_safe_8 : decode cX12_safe 8 = .ok (.aload_n 0, 1) := by decide +kernel
theorem dX12_safe_9 : decode cX12_safe 9 = .ok (.iload_n 2, 1) := by decide +kernel
theorem dX12_safe_10 : decode cX12_safe 10 = .ok (.invokevirtual 498, 3) := by decide +kernel
theorem dX12_safe_13 : decode cX12_safe 13 = .ok (.ifCond .ne 5, 3) := by decide +kernel
theorem dX12_safe_16 : decode cX12_safe 16 = .ok (.iconst (-1), 1) := by decide +kernel
theorem dX12_safe_17 : decode cX12_safe 17 = .ok (.ireturn, 1) := by decide +kernel
theorem dX12_safe_18 : decode cX12_safe 18 = .ok (.aload_n 0, 1) := by decide +kernel
theorem dX12_safe_19 : decode cX12_safe 19 = .ok (.iconst 0, 1) := by decide +kernel
theorem dX12_safe_20 : decode cX12_safe 20 = .ok (.invokevirtual 501, 3) := by decide +kernel
theorem dX12_safe_23 : decode cX12_safe 23 = .ok (.aload_n 0, 1) := by decide +kernel
theorem dX12_safe_24 : decode cX12_safe 24 = .ok (.invokevirtual 504, 3) := by decide +kernel
theorem dX12_safe_27 : decode cX12_safe 27 = .ok (.aload_n 0, 1) := by decide +kernel
theorem dX12_safe_28 : decode cX12_safe 28 = .ok (.iload_n 1, 1) := by decide +kernel
theorem dX12_safe_29 : decode cX12_safe 29 = .ok (.iload_n 2, 1) := by decide +kernel
theorem dX12_safe_30 : decode cX12_safe 30 = .ok (.invokevirtual 614, 3) := by decide +kernel
theorem dX12_safe_33 : decode cX12_safe 33 = .ok (.ifCond .eq 7, 3) := by decide +kernel
theorem dX12_safe_36 : decode cX12_safe 36 = .ok (.iconst 1, 1) := by decide +kernel
theorem dX12_safe_37 : decode cX12_safe 37 = .ok (.goto 4, 3) := by decide +kernel
theorem dX12_safe_40 : decode cX12_safe 40 = .ok (.iconst 0, 1) := by decide +kernel
theorem dX12_safe_41 : decode cX12_safe 41 = .ok (.ireturn, 1) := by decide +kernel
theorem dX12_exchanges_0 : decode cX12_exchanges 0 = .ok (.aload_n 0, 1) := by decide +kernel
theorem dX12_exchanges_1 : decode cX12_exchanges 1 = .ok (.getfield 176, 3) := by decide +kernel
theorem dX12_exchanges_4 : decode cX12_exchanges 4 = .ok (.bipush 12, 2) := by decide +kernel
theorem dX12_exchanges_6 : decode cX12_exchanges 6 = .ok (.iload_n 1, 1) := by decide +kernel
theorem dX12_exchanges_7 : decode cX12_exchanges 7 = .ok (.imul, 1) := by decide +kernel
theorem dX12_exchanges_8 : decode cX12_exchanges 8 = .ok (.iload_n 2, 1) := by decide +kernel
theorem dX12_exchanges_9 : decode cX12_exchanges 9 = .ok (.iadd, 1) := by decide +kernel
theorem dX12_exchanges_10 : decode cX12_exchanges 10 = .ok (.iaload, 1) := by decide +kernel
theorem dX12_exchanges_11 : decode cX12_exchanges 11 = .ok (.istore 4, 2) := by decide +kernel
theorem dX12_exchanges_13 : decode cX12_exchanges 13 = .ok (.aload_n 0, 1) := by decide +kernel
theorem dX12_exchanges_14 : decode cX12_exchanges 14 = .ok (.getfield 176, 3) := by decide +kernel
theorem dX12_exchanges_17 : decode cX12_exchanges 17 = .ok (.bipush 12, 2) := by decide +kernel
theorem dX12_exchanges_19 : decode cX12_exchanges 19 = .ok (.iload_n 1, 1) := by decide +kernel
theorem dX12_exchanges_20 : decode cX12_exchanges 20 = .ok (.imul, 1) := by decide +kernel
theorem dX12_exchanges_21 : decode cX12_exchanges 21 = .ok (.iload_n 2, 1) := by decide +kernel
theorem dX12_exchanges_22 : decode cX12_exchanges 22 = .ok (.iadd, 1) := by decide +kernel
theorem dX12_exchanges_23 : decode cX12_exchanges 23 = .ok (.aload_n 0, 1) := by decide +kernel
theorem dX12_exchanges_24 : decode cX12_exchanges 24 = .ok (.getfield 176, 3) := by decide +kernel
theorem dX12_exchanges_27 : decode cX12_exchanges 27 = .ok (.bipush 12, 2) := by decide +kernel
theorem dX12_exchanges_29 : decode cX12_exchanges 29 = .ok (.iload_n 1, 1) := by decide +kernel
theorem dX12_exchanges_30 : decode cX12_exchanges 30 = .ok (.imul, 1) := by decide +kernel
theorem dX12_exchanges_31 : decode cX12_exchanges 31 = .ok (.iload_n 3, 1) := by decide +kernel
theorem dX12_exchanges_32 : decode cX12_exchanges 32 = .ok (.iadd, 1) := by decide +kernel
theorem dX12_exchanges_33 : decode cX12_exchanges 33 = .ok (.iaload, 1) := by decide +kernel
theorem dX12_exchanges_34 : decode cX12_exchanges 34 = .ok (.iastore, 1) := by decide +kernel
theorem dX12_exchanges_35 : decode cX12_exchanges 35 = .ok (.aload_n 0, 1) := by decide +kernel
theorem dX12_exchanges_36 : decode cX12_exchanges 36 = .ok (.getfield 176, 3) := by decide +kernel
theorem dX12_exchanges_39 : decode cX12_exchanges 39 = .ok (.bipush 12, 2) := by decide +kernel
theorem dX12_exchanges_41 : decode cX12_exchanges 41 = .ok (.iload_n 1, 1) := by decide +kernel
theorem dX12_exchanges_42 : decode cX12_exchanges 42 = .ok (.imul, 1) := by decide +kernel
theorem dX12_exchanges_43 : decode cX12_exchanges 43 = .ok (.iload_n 3, 1) := by decide +kernel
theorem dX12_exchanges_44 : decode cX12_exchanges 44 = .ok (.iadd, 1) := by decide +kernel
theorem dX12_exchanges_45 : decode cX12_exchanges 45 = .ok (.iload 4, 2) := by decide +kernel
theorem dX12_exchanges_47 : decode cX12_exchanges 47 = .ok (.iastore, 1) := by decide +kernel
theorem dX12_exchanges_48 : decode cX12_exchanges 48 = .ok (.return_, 1) := by decide +kernel
theorem dX12_best_0 : decode cX12_best 0 = .ok (.aload_n 0, 1) := by decide +kernel
theorem dX12_best_1 : decode cX12_best 1 = .ok (.getfield 146, 3) := by decide +kernel
theorem dX12_best_4 : decode cX12_best 4 = .ok (.ifCond .eq 12, 3) := by decide +kernel
theorem dX12_best_7 : decode cX12_best 7 = .ok (.iload_n 1, 1) := by decide +kernel
theorem dX12_best_8 : decode cX12_best 8 = .ok (.iconst 0, 1) := by decide +kernel
theorem dX12_best_9 : decode cX12_best 9 = .ok (.iconst 1, 1) := by decide +kernel
theorem dX12_best_10 : decode cX12_best 10 = .ok (.invokestatic 362, 3) := by decide +kernel
theorem dX12_best_13 : decode cX12_best 13 = .ok (.ifCond .ne 5, 3) := by decide +kernel
theorem dX12_best_16 : decode cX12_best 16 = .ok (.iconst (-1), 1) := by decide +kernel
theorem dX12_best_17 : decode cX12_best 17 = .ok (.ireturn, 1) := by decide +kernel
theorem dX12_best_18 : decode cX12_best 18 = .ok (.aload_n 0, 1) := by decide +kernel
theorem dX12_best_19 : decode cX12_best 19 = .ok (.iconst 0, 1) := by decide +kernel
theorem dX12_best_20 : decode cX12_best 20 = .ok (.invokevirtual 501, 3) := by decide +kernel
theorem dX12_best_23 : decode cX12_best 23 = .ok (.aload_n 0, 1) := by decide +kernel
theorem dX12_best_24 : decode cX12_best 24 = .ok (.invokevirtual 504, 3) := by decide +kernel
theorem dX12_best_27 : decode cX12_best 27 = .ok (.iconst 0, 1) := by decide +kernel
theorem dX12_best_28 : decode cX12_best 28 = .ok (.istore_n 2, 1) := by decide +kernel
theorem dX12_best_29 : decode cX12_best 29 = .ok (.iload_n 2, 1) := by decide +kernel
theorem dX12_best_30 : decode cX12_best 30 = .ok (.iconst 1, 1) := by decide +kernel
theorem dX12_best_31 : decode cX12_best 31 = .ok (.iadd, 1) := by decide +kernel
theorem dX12_best_32 : decode cX12_best 32 = .ok (.aload_n 0, 1) := by decide +kernel
theorem dX12_best_33 : decode cX12_best 33 = .ok (.getfield 173, 3) := by decide +kernel
theorem dX12_best_36 : decode cX12_best 36 = .ok (.iconst 0, 1) := by decide +kernel
theorem dX12_best_37 : decode cX12_best 37 = .ok (.iaload, 1) := by decide +kernel
theorem dX12_best_38 : decode cX12_best 38 = .ok (.if_icmp .ge 31, 3) := by decide +kernel
theorem dX12_best_41 : decode cX12_best 41 = .ok (.aload_n 0, 1) := by decide +kernel
theorem dX12_best_42 : decode cX12_best 42 = .ok (.getfield 288, 3) := by decide +kernel
theorem dX12_best_45 : decode cX12_best 45 = .ok (.iload_n 2, 1) := by decide +kernel
theorem dX12_best_46 : decode cX12_best 46 = .ok (.aload_n 0, 1) := by decide +kernel
theorem dX12_best_47 : decode cX12_best 47 = .ok (.iload_n 2, 1) := by decide +kernel
theorem dX12_best_48 : decode cX12_best 48 = .ok (.iload_n 2, 1) := by decide +kernel
theorem dX12_best_49 : decode cX12_best 49 = .ok (.iconst 1, 1) := by decide +kernel
theorem dX12_best_50 : decode cX12_best 50 = .ok (.iadd, 1) := by decide +kernel
theorem dX12_best_51 : decode cX12_best 51 = .ok (.invokevirtual 614, 3) := by decide +kernel
theorem dX12_best_54 : decode cX12_best 54 = .ok (.ifCond .eq 7, 3) := by decide +kernel
theorem dX12_best_57 : decode cX12_best 57 = .ok (.iconst 1, 1) := by decide +kernel
theorem dX12_best_58 : decode cX12_best 58 = .ok (.goto 4, 3) := by decide +kernel
theorem dX12_best_61 : decode cX12_best 61 = .ok (.iconst 0, 1) := by decide +kernel
theorem dX12_best_62 : decode cX12_best 62 = .ok (.iastore, 1) := by decide +kernel
theorem dX12_best_63 : decode cX12_best 63 = .ok (.iinc 2 1, 3) := by decide +kernel
theorem dX12_best_66 : decode cX12_best 66 = .ok (.goto (-37), 3) := by decide +kernel
theorem dX12_best_69 : decode cX12_best 69 = .ok (.aload_n 0, 1) := by decide +kernel
theorem dX12_best_70 : decode cX12_best 70 = .ok (.iconst 0, 1) := by decide +kernel
theorem dX12_best_71 : decode cX12_best 71 = .ok (.aload_n 0, 1) := by decide +kernel
theorem dX12_best_72 : decode cX12_best 72 = .ok (.getfield 182, 3) := by decide +kernel
theorem dX12_best_75 : decode cX12_best 75 = .ok (.iconst 0, 1) := by decide +kernel
theorem dX12_best_76 : decode cX12_best 76 = .ok (.iaload, 1) := by decide +kernel
theorem dX12_best_77 : decode cX12_best 77 = .ok (.invokevirtual 581, 3) := by decide +kernel
theorem dX12_best_80 : decode cX12_best 80 = .ok (.aload_n 0, 1) := by decide +kernel
theorem dX12_best_81 : decode cX12_best 81 = .ok (.iconst 0, 1) := by decide +kernel
theorem dX12_best_82 : decode cX12_best 82 = .ok (.invokevirtual 584, 3) := by decide +kernel
theorem dX12_best_85 : decode cX12_best 85 = .ok (.istore_n 2, 1) := by decide +kernel
theorem dX12_best_86 : decode cX12_best 86 = .ok (.iconst (-1), 1) := by decide +kernel
theorem dX12_best_87 : decode cX12_best 87 = .ok (.istore_n 3, 1) := by decide +kernel
theorem dX12_best_88 : decode cX12_best 88 = .ok (.iconst 0, 1) := by decide +kernel
theorem dX12_best_89 : decode cX12_best 89 = .ok (.istore 4, 2) := by decide +kernel
theorem dX12_best_91 : decode cX12_best 91 = .ok (.iload 4, 2) := by decide +kernel
theorem dX12_best_93 : decode cX12_best 93 = .ok (.iconst 1, 1) := by decide +kernel
theorem dX12_best_94 : decode cX12_best 94 = .ok (.iadd, 1) := by decide +kernel
theorem dX12_best_95 : decode cX12_best 95 = .ok (.aload_n 0, 1) := by decide +kernel
theorem dX12_best_96 : decode cX12_best 96 = .ok (.getfield 173, 3) := by decide +kernel
theorem dX12_best_99 : decode cX12_best 99 = .ok (.iconst 0, 1) := by decide +kernel
theorem dX12_best_100 : decode cX12_best 100 = .ok (.iaload, 1) := by decide +kernel
theorem dX12_best_101 : decode cX12_best 101 = .ok (.if_icmp .ge 72, 3) := by decide +kernel
theorem dX12_best_104 : decode cX12_best 104 = .ok (.aload_n 0, 1) := by decide +kernel
theorem dX12_best_105 : decode cX12_best 105 = .ok (.getfield 288, 3) := by decide +kernel
theorem dX12_best_108 : decode cX12_best 108 = .ok (.iload 4, 2) := by decide +kernel
theorem dX12_best_110 : decode cX12_best 110 = .ok (.iaload, 1) := by decide +kernel
theorem dX12_best_111 : decode cX12_best 111 = .ok (.ifCond .ne 6, 3) := by decide +kernel
theorem dX12_best_114 : decode cX12_best 114 = .ok (.goto 53, 3) := by decide +kernel
theorem dX12_best_117 : decode cX12_best 117 = .ok (.aload_n 0, 1) := by decide +kernel
theorem dX12_best_118 : decode cX12_best 118 = .ok (.iconst 1, 1) := by decide +kernel
theorem dX12_best_119 : decode cX12_best 119 = .ok (.iconst 0, 1) := by decide +kernel
theorem dX12_best_120 : decode cX12_best 120 = .ok (.invokevirtual 472, 3) := by decide +kernel
theorem dX12_best_123 : decode cX12_best 123 = .ok (.aload_n 0, 1) := by decide +kernel
theorem dX12_best_124 : decode cX12_best 124 = .ok (.iconst 1, 1) := by decide +kernel
theorem dX12_best_125 : decode cX12_best 125 = .ok (.iload 4, 2) := by decide +kernel
theorem dX12_best_127 : decode cX12_best 127 = .ok (.iload 4, 2) := by decide +kernel
theorem dX12_best_129 : decode cX12_best 129 = .ok (.iconst 1, 1) := by decide +kernel
theorem dX12_best_130 : decode cX12_best 130 = .ok (.iadd, 1) := by decide +kernel
theorem dX12_best_131 : decode cX12_best 131 = .ok (.invokevirtual 618, 3) := by decide +kernel
theorem dX12_best_134 : decode cX12_best 134 = .ok (.aload_n 0, 1) := by decide +kernel
theorem dX12_best_135 : decode cX12_best 135 = .ok (.iconst 1, 1) := by decide +kernel
theorem dX12_best_136 : decode cX12_best 136 = .ok (.aload_n 0, 1) := by decide +kernel
theorem dX12_best_137 : decode cX12_best 137 = .ok (.getfield 182, 3) := by decide +kernel
theorem dX12_best_140 : decode cX12_best 140 = .ok (.iconst 1, 1) := by decide +kernel
theorem dX12_best_141 : decode cX12_best 141 = .ok (.iaload, 1) := by decide +kernel
theorem dX12_best_142 : decode cX12_best 142 = .ok (.invokevirtual 581, 3) := by decide +kernel
theorem dX12_best_145 : decode cX12_best 145 = .ok (.aload_n 0, 1) := by decide +kernel
theorem dX12_best_146 : decode cX12_best 146 = .ok (.iconst 1, 1) := by decide +kernel
theorem dX12_best_147 : decode cX12_best 147 = .ok (.invokevirtual 584, 3) := by decide +kernel
theorem dX12_best_150 : decode cX12_best 150 = .ok (.istore 5, 2) := by decide +kernel
theorem dX12_best_152 : decode cX12_best 152 = .ok (.iload 5, 2) := by decide +kernel
theorem dX12_best_154 : decode cX12_best 154 = .ok (.iload_n 2, 1) := by decide +kernel
theorem dX12_best_155 : decode cX12_best 155 = .ok (.if_icmp .lt 6, 3) := by decide +kernel
theorem dX12_best_158 : decode cX12_best 158 = .ok (.goto 9, 3) := by decide +kernel
theorem dX12_best_161 : decode cX12_best 161 = .ok (.iload 5, 2) := by decide +kernel
theorem dX12_best_163 : decode cX12_best 163 = .ok (.istore_n 2, 1) := by decide +kernel
theorem dX12_best_164 : decode cX12_best 164 = .ok (.iload 4, 2) := by decide +kernel
theorem dX12_best_166 : decode cX12_best 166 = .ok (.istore_n 3, 1) := by decide +kernel
theorem dX12_best_167 : decode cX12_best 167 = .ok (.iinc 4 1, 3) := by decide +kernel
theorem dX12_best_170 : decode cX12_best 170 = .ok (.goto (-79), 3) := by decide +kernel
theorem dX12_best_173 : decode cX12_best 173 = .ok (.iload_n 1, 1) := by decide +kernel
theorem dX12_best_174 : decode cX12_best 174 = .ok (.ifCond .ne 7, 3) := by decide +kernel
theorem dX12_best_177 : decode cX12_best 177 = .ok (.iload_n 3, 1) := by decide +kernel
theorem dX12_best_178 : decode cX12_best 178 = .ok (.goto 4, 3) := by decide +kernel
theorem dX12_best_181 : decode cX12_best 181 = .ok (.iload_n 2, 1) := by decide +kernel
theorem dX12_best_182 : decode cX12_best 182 = .ok (.ireturn, 1) := by decide +kernel
theorem dX12_see_0 : decode cX12_see 0 = .ok (.aload_n 0, 1) := by decide +kernel
theorem dX12_see_1 : decode cX12_see 1 = .ok (.getfield 13, 3) := by decide +kernel
theorem dX12_see_4 : decode cX12_see 4 = .ok (.istore_n 1, 1) := by decide +kernel
theorem dX12_see_5 : decode cX12_see 5 = .ok (.aload_n 0, 1) := by decide +kernel
theorem dX12_see_6 : decode cX12_see 6 = .ok (.iconst 0, 1) := by decide +kernel
theorem dX12_see_7 : decode cX12_see 7 = .ok (.putfield 13, 3) := by decide +kernel
theorem dX12_see_10 : decode cX12_see 10 = .ok (.aload_n 0, 1) := by decide +kernel
theorem dX12_see_11 : decode cX12_see 11 = .ok (.getfield 146, 3) := by decide +kernel
theorem dX12_see_14 : decode cX12_see 14 = .ok (.ifCond .eq 23, 3) := by decide +kernel
theorem dX12_see_17 : decode cX12_see 17 = .ok (.iload_n 1, 1) := by decide +kernel
theorem dX12_see_18 : decode cX12_see 18 = .ok (.ifCond .le 19, 3) := by decide +kernel
theorem dX12_see_21 : decode cX12_see 21 = .ok (.iload_n 1, 1) := by decide +kernel
theorem dX12_see_22 : decode cX12_see 22 = .ok (.iconst 3, 1) := by decide +kernel
theorem dX12_see_23 : decode cX12_see 23 = .ok (.irem, 1) := by decide +kernel
theorem dX12_see_24 : decode cX12_see 24 = .ok (.ifCond .ne 13, 3) := by decide +kernel
theorem dX12_see_27 : decode cX12_see 27 = .ok (.iload_n 1, 1) := by decide +kernel
theorem dX12_see_28 : decode cX12_see 28 = .ok (.bipush 48, 2) := by decide +kernel
theorem dX12_see_30 : decode cX12_see 30 = .ok (.if_icmp .gt 7, 3) := by decide +kernel
theorem dX12_see_33 : decode cX12_see 33 = .ok (.iconst 1, 1) := by decide +kernel
theorem dX12_see_34 : decode cX12_see 34 = .ok (.goto 4, 3) := by decide +kernel
theorem dX12_see_37 : decode cX12_see 37 = .ok (.iconst 0, 1) := by decide +kernel
theorem dX12_see_38 : decode cX12_see 38 = .ok (.istore_n 2, 1) := by decide +kernel
theorem dX12_see_39 : decode cX12_see 39 = .ok (.iconst 0, 1) := by decide +kernel
theorem dX12_see_40 : decode cX12_see 40 = .ok (.istore_n 3, 1) := by decide +kernel
theorem dX12_see_41 : decode cX12_see 41 = .ok (.iload_n 3, 1) := by decide +kernel
theorem dX12_see_42 : decode cX12_see 42 = .ok (.iload_n 1, 1) := by decide +kernel
theorem dX12_see_43 : decode cX12_see 43 = .ok (.if_icmp .ge 75, 3) := by decide +kernel
theorem dX12_see_46 : decode cX12_see 46 = .ok (.iload_n 2, 1) := by decide +kernel
theorem dX12_see_47 : decode cX12_see 47 = .ok (.ifCond .eq 71, 3) := by decide +kernel
theorem dX12_see_50 : decode cX12_see 50 = .ok (.aload_n 0, 1) := by decide +kernel
theorem dX12_see_51 : decode cX12_see 51 = .ok (.getfield 7, 3) := by decide +kernel
theorem dX12_see_54 : decode cX12_see 54 = .ok (.iload_n 3, 1) := by decide +kernel
theorem dX12_see_55 : decode cX12_see 55 = .ok (.iaload, 1) := by decide +kernel
theorem dX12_see_56 : decode cX12_see 56 = .ok (.bipush 8, 2) := by decide +kernel
theorem dX12_see_58 : decode cX12_see 58 = .ok (.ishl, 1) := by decide +kernel
theorem dX12_see_59 : decode cX12_see 59 = .ok (.aload_n 0, 1) := by decide +kernel
theorem dX12_see_60 : decode cX12_see 60 = .ok (.getfield 7, 3) := by decide +kernel
theorem dX12_see_63 : decode cX12_see 63 = .ok (.iload_n 3, 1) := by decide +kernel
theorem dX12_see_64 : decode cX12_see 64 = .ok (.iconst 1, 1) := by decide +kernel
theorem dX12_see_65 : decode cX12_see 65 = .ok (.iadd, 1) := by decide +kernel
theorem dX12_see_66 : decode cX12_see 66 = .ok (.iaload, 1) := by decide +kernel
theorem dX12_see_67 : decode cX12_see 67 = .ok (.ior, 1) := by decide +kernel
theorem dX12_see_68 : decode cX12_see 68 = .ok (.aload_n 0, 1) := by decide +kernel
theorem dX12_see_69 : decode cX12_see 69 = .ok (.getfield 170, 3) := by decide +kernel
theorem dX12_see_72 : decode cX12_see 72 = .ok (.if_icmp .ge 38, 3) := by decide +kernel
theorem dX12_see_75 : decode cX12_see 75 = .ok (.aload_n 0, 1) := by decide +kernel
theorem dX12_see_76 : decode cX12_see 76 = .ok (.getfield 7, 3) := by decide +kernel
theorem dX12_see_79 : decode cX12_see 79 = .ok (.iload_n 3, 1) := by decide +kernel
theorem dX12_see_80 : decode cX12_see 80 = .ok (.iconst 2, 1) := by decide +kernel
theorem dX12_see_81 : decode cX12_see 81 = .ok (.iadd, 1) := by decide +kernel
theorem dX12_see_82 : decode cX12_see 82 = .ok (.iaload, 1) := by decide +kernel
theorem dX12_see_83 : decode cX12_see 83 = .ok (.sipush 255, 3) := by decide +kernel
theorem dX12_see_86 : decode cX12_see 86 = .ok (.if_icmp .eq 20, 3) := by decide +kernel
theorem dX12_see_89 : decode cX12_see 89 = .ok (.aload_n 0, 1) := by decide +kernel
theorem dX12_see_90 : decode cX12_see 90 = .ok (.getfield 7, 3) := by decide +kernel
theorem dX12_see_93 : decode cX12_see 93 = .ok (.iload_n 3, 1) := by decide +kernel
theorem dX12_see_94 : decode cX12_see 94 = .ok (.iconst 2, 1) := by decide +kernel
theorem dX12_see_95 : decode cX12_see 95 = .ok (.iadd, 1) := by decide +kernel
theorem dX12_see_96 : decode cX12_see 96 = .ok (.iaload, 1) := by decide +kernel
theorem dX12_see_97 : decode cX12_see 97 = .ok (.aload_n 0, 1) := by decide +kernel
theorem dX12_see_98 : decode cX12_see 98 = .ok (.getfield 173, 3) := by decide +kernel
theorem dX12_see_101 : decode cX12_see 101 = .ok (.iconst 0, 1) := by decide +kernel
theorem dX12_see_102 : decode cX12_see 102 = .ok (.iaload, 1) := by decide +kernel
theorem dX12_see_103 : decode cX12_see 103 = .ok (.if_icmp .ge 7, 3) := by decide +kernel
theorem dX12_see_106 : decode cX12_see 106 = .ok (.iconst 1, 1) := by decide +kernel
theorem dX12_see_107 : decode cX12_see 107 = .ok (.goto 4, 3) := by decide +kernel
theorem dX12_see_110 : decode cX12_see 110 = .ok (.iconst 0, 1) := by decide +kernel
theorem dX12_see_111 : decode cX12_see 111 = .ok (.istore_n 2, 1) := by decide +kernel
theorem dX12_see_112 : decode cX12_see 112 = .ok (.iinc 3 3, 3) := by decide +kernel
theorem dX12_see_115 : decode cX12_see 115 = .ok (.goto (-74), 3) := by decide +kernel
theorem dX12_see_118 : decode cX12_see 118 = .ok (.iload_n 2, 1) := by decide +kernel
theorem dX12_see_119 : decode cX12_see 119 = .ok (.ifCond .ne 9, 3) := by decide +kernel
theorem dX12_see_122 : decode cX12_see 122 = .ok (.aload_n 0, 1) := by decide +kernel
theorem dX12_see_123 : decode cX12_see 123 = .ok (.iconst 5, 1) := by decide +kernel
theorem dX12_see_124 : decode cX12_see 124 = .ok (.invokevirtual 312, 3) := by decide +kernel
theorem dX12_see_127 : decode cX12_see 127 = .ok (.ireturn, 1) := by decide +kernel
theorem dX12_see_128 : decode cX12_see 128 = .ok (.aload_n 0, 1) := by decide +kernel
theorem dX12_see_129 : decode cX12_see 129 = .ok (.iload_n 1, 1) := by decide +kernel
theorem dX12_see_130 : decode cX12_see 130 = .ok (.iconst 3, 1) := by decide +kernel
theorem dX12_see_131 : decode cX12_see 131 = .ok (.idiv, 1) := by decide +kernel
theorem dX12_see_132 : decode cX12_see 132 = .ok (.putfield 291, 3) := by decide +kernel
theorem dX12_see_135 : decode cX12_see 135 = .ok (.iconst 0, 1) := by decide +kernel
theorem dX12_see_136 : decode cX12_see 136 = .ok (.istore_n 3, 1) := by decide +kernel
theorem dX12_see_137 : decode cX12_see 137 = .ok (.iload_n 3, 1) := by decide +kernel
theorem dX12_see_138 : decode cX12_see 138 = .ok (.aload_n 0, 1) := by decide +kernel
theorem dX12_see_139 : decode cX12_see 139 = .ok (.getfield 291, 3) := by decide +kernel
theorem dX12_see_142 : decode cX12_see 142 = .ok (.if_icmp .ge 73, 3) := by decide +kernel
theorem dX12_see_145 : decode cX12_see 145 = .ok (.aload_n 0, 1) := by decide +kernel
theorem dX12_see_146 : decode cX12_see 146 = .ok (.getfield 294, 3) := by decide +kernel
theorem dX12_see_149 : decode cX12_see 149 = .ok (.iload_n 3, 1) := by decide +kernel
theorem dX12_see_150 : decode cX12_see 150 = .ok (.aload_n 0, 1) := by decide +kernel
theorem dX12_see_151 : decode cX12_see 151 = .ok (.getfield 7, 3) := by decide +kernel
theorem dX12_see_154 : decode cX12_see 154 = .ok (.iconst 3, 1) := by decide +kernel
theorem dX12_see_155 : decode cX12_see 155 = .ok (.iload_n 3, 1) := by decide +kernel
theorem dX12_see_156 : decode cX12_see 156 = .ok (.imul, 1) := by decide +kernel
theorem dX12_see_157 : decode cX12_see 157 = .ok (.iaload, 1) := by decide +kernel
theorem dX12_see_158 : decode cX12_see 158 = .ok (.bipush 8, 2) := by decide +kernel
theorem dX12_see_160 : decode cX12_see 160 = .ok (.ishl, 1) := by decide +kernel
theorem dX12_see_161 : decode cX12_see 161 = .ok (.aload_n 0, 1) := by decide +kernel
theorem dX12_see_162 : decode cX12_see 162 = .ok (.getfield 7, 3) := by decide +kernel
theorem dX12_see_165 : decode cX12_see 165 = .ok (.iconst 3, 1) := by decide +kernel
theorem dX12_see_166 : decode cX12_see 166 = .ok (.iload_n 3, 1) := by decide +kernel
theorem dX12_see_167 : decode cX12_see 167 = .ok (.imul, 1) := by decide +kernel
theorem dX12_see_168 : decode cX12_see 168 = .ok (.iconst 1, 1) := by decide +kernel
theorem dX12_see_169 : decode cX12_see 169 = .ok (.iadd, 1) := by decide +kernel
theorem dX12_see_170 : decode cX12_see 170 = .ok (.iaload, 1) := by decide +kernel
theorem dX12_see_171 : decode cX12_see 171 = .ok (.ior, 1) := by decide +kernel
theorem dX12_see_172 : decode cX12_see 172 = .ok (.iastore, 1) := by decide +kernel
theorem dX12_see_173 : decode cX12_see 173 = .ok (.aload_n 0, 1) := by decide +kernel
theorem dX12_see_174 : decode cX12_see 174 = .ok (.getfield 297, 3) := by decide +kernel
theorem dX12_see_177 : decode cX12_see 177 = .ok (.iload_n 3, 1) := by decide +kernel
theorem dX12_see_178 : decode cX12_see 178 = .ok (.aload_n 0, 1) := by decide +kernel
theorem dX12_see_179 : decode cX12_see 179 = .ok (.getfield 7, 3) := by decide +kernel
theorem dX12_see_182 : decode cX12_see 182 = .ok (.iconst 3, 1) := by decide +kernel
theorem dX12_see_183 : decode cX12_see 183 = .ok (.iload_n 3, 1) := by decide +kernel
theorem dX12_see_184 : decode cX12_see 184 = .ok (.imul, 1) := by decide +kernel
theorem dX12_see_185 : decode cX12_see 185 = .ok (.iconst 2, 1) := by decide +kernel
theorem dX12_see_186 : decode cX12_see 186 = .ok (.iadd, 1) := by decide +kernel
theorem dX12_see_187 : decode cX12_see 187 = .ok (.iaload, 1) := by decide +kernel
theorem dX12_see_188 : decode cX12_see 188 = .ok (.sipush 255, 3) := by decide +kernel
theorem dX12_see_191 : decode cX12_see 191 = .ok (.if_icmp .ne 7, 3) := by decide +kernel
theorem dX12_see_194 : decode cX12_see 194 = .ok (.iconst (-1), 1) := by decide +kernel
theorem dX12_see_195 : decode cX12_see 195 = .ok (.goto 13, 3) := by decide +kernel
theorem dX12_see_198 : decode cX12_see 198 = .ok (.aload_n 0, 1) := by decide +kernel
theorem dX12_see_199 : decode cX12_see 199 = .ok (.getfield 7, 3) := by decide +kernel
theorem dX12_see_202 : decode cX12_see 202 = .ok (.iconst 3, 1) := by decide +kernel
theorem dX12_see_203 : decode cX12_see 203 = .ok (.iload_n 3, 1) := by decide +kernel
theorem dX12_see_204 : decode cX12_see 204 = .ok (.imul, 1) := by decide +kernel
theorem dX12_see_205 : decode cX12_see 205 = .ok (.iconst 2, 1) := by decide +kernel
theorem dX12_see_206 : decode cX12_see 206 = .ok (.iadd, 1) := by decide +kernel
theorem dX12_see_207 : decode cX12_see 207 = .ok (.iaload, 1) := by decide +kernel
theorem dX12_see_208 : decode cX12_see 208 = .ok (.iastore, 1) := by decide +kernel
theorem dX12_see_209 : decode cX12_see 209 = .ok (.iinc 3 1, 3) := by decide +kernel
