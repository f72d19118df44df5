theorem dX11_scopes_69 : decode cX11_scopes 69 = .ok (.getfield 92, 3) := by decide +kernel
theorem dX11_scopes_72 : decode cX11_scopes 72 = .ok (.getfield 334, 3) := by decide +kernel
theorem dX11_scopes_75 : decode cX11_scopes 75 = .ok (.ireturn, 1) := by decide +kernel
theorem dX11_scopes_76 : decode cX11_scopes 76 = .ok (.aload_n 0, 1) := by decide +kernel
theorem dX11_scopes_77 : decode cX11_scopes 77 = .ok (.getfield 92, 3) := by decide +kernel
theorem dX11_scopes_80 : decode cX11_scopes 80 = .ok (.getfield 337, 3) := by decide +kernel
theorem dX11_scopes_83 : decode cX11_scopes 83 = .ok (.ifCond .eq 7, 3) := by decide +kernel
theorem dX11_scopes_86 : decode cX11_scopes 86 = .ok (.iconst 1, 1) := by decide +kernel
theorem dX11_scopes_87 : decode cX11_scopes 87 = .ok (.goto 4, 3) := by decide +kernel
theorem dX11_scopes_90 : decode cX11_scopes 90 = .ok (.iconst 0, 1) := by decide +kernel
theorem dX11_scopes_91 : decode cX11_scopes 91 = .ok (.ireturn, 1) := by decide +kernel
theorem dX11_scopes_92 : decode cX11_scopes 92 = .ok (.aload_n 0, 1) := by decide +kernel
theorem dX11_scopes_93 : decode cX11_scopes 93 = .ok (.getfield 92, 3) := by decide +kernel
theorem dX11_scopes_96 : decode cX11_scopes 96 = .ok (.iload_n 3, 1) := by decide +kernel
theorem dX11_scopes_97 : decode cX11_scopes 97 = .ok (.invokevirtual 341, 3) := by decide +kernel
theorem dX11_scopes_100 : decode cX11_scopes 100 = .ok (.ireturn, 1) := by decide +kernel
theorem dX11_scopes_101 : decode cX11_scopes 101 = .ok (.iconst (-1), 1) := by decide +kernel
theorem dX11_scopes_102 : decode cX11_scopes 102 = .ok (.ireturn, 1) := by decide +kernel
theorem dX11_safe_0 : decode cX11_safe 0 = .ok (.aload_n 0, 1) := by decide +kernel
theorem dX11_safe_1 : decode cX11_safe 1 = .ok (.getfield 43, 3) := by decide +kernel
theorem dX11_safe_4 : decode cX11_safe 4 = .ok (.iload_n 1, 1) := by decide +kernel
theorem dX11_safe_5 : decode cX11_safe 5 = .ok (.invokevirtual 344, 3) := by decide +kernel
theorem dX11_safe_8 : decode cX11_safe 8 = .ok (.ifCond .eq 14, 3) := by decide +kernel
theorem dX11_safe_11 : decode cX11_safe 11 = .ok (.aload_n 0, 1) := by decide +kernel
theorem dX11_safe_12 : decode cX11_safe 12 = .ok (.getfield 43, 3) := by decide +kernel
theorem dX11_safe_15 : decode cX11_safe 15 = .ok (.iload_n 2, 1) := by decide +kernel
theorem dX11_safe_16 : decode cX11_safe 16 = .ok (.invokevirtual 344, 3) := by decide +kernel
theorem dX11_safe_19 : decode cX11_safe 19 = .ok (.ifCond .ne 5, 3) := by decide +kernel
theorem dX11_safe_22 : decode cX11_safe 22 = .ok (.iconst (-1), 1) := by decide +kernel
theorem dX11_safe_23 : decode cX11_safe 23 = .ok (.ireturn, 1) := by decide +kernel
theorem dX11_safe_24 : decode cX11_safe 24 = .ok (.aload_n 0, 1) := by decide +kernel
theorem dX11_safe_25 : decode cX11_safe 25 = .ok (.getfield 47, 3) := by decide +kernel
theorem dX11_safe_28 : decode cX11_safe 28 = .ok (.aload_n 0, 1) := by decide +kernel
theorem dX11_safe_29 : decode cX11_safe 29 = .ok (.getfield 43, 3) := by decide +kernel
theorem dX11_safe_32 : decode cX11_safe 32 = .ok (.invokevirtual 347, 3) := by decide +kernel
theorem dX11_safe_35 : decode cX11_safe 35 = .ok (.aload_n 0, 1) := by decide +kernel
theorem dX11_safe_36 : decode cX11_safe 36 = .ok (.getfield 47, 3) := by decide +kernel
theorem dX11_safe_39 : decode cX11_safe 39 = .ok (.iload_n 1, 1) := by decide +kernel
theorem dX11_safe_40 : decode cX11_safe 40 = .ok (.iload_n 2, 1) := by decide +kernel
theorem dX11_safe_41 : decode cX11_safe 41 = .ok (.invokevirtual 350, 3) := by decide +kernel
theorem dX11_safe_44 : decode cX11_safe 44 = .ok (.aload_n 0, 1) := by decide +kernel
theorem dX11_safe_45 : decode cX11_safe 45 = .ok (.invokevirtual 353, 3) := by decide +kernel
theorem dX11_safe_48 : decode cX11_safe 48 = .ok (.ifCond .eq 7, 3) := by decide +kernel
theorem dX11_safe_51 : decode cX11_safe 51 = .ok (.iconst 1, 1) := by decide +kernel
theorem dX11_safe_52 : decode cX11_safe 52 = .ok (.goto 4, 3) := by decide +kernel
theorem dX11_safe_55 : decode cX11_safe 55 = .ok (.iconst 0, 1) := by decide +kernel
theorem dX11_safe_56 : decode cX11_safe 56 = .ok (.ireturn, 1) := by decide +kernel
theorem dX11_trialTakesAlike_0 : decode cX11_trialTakesAlike 0 = .ok (.iconst 0, 1) := by decide +kernel
theorem dX11_trialTakesAlike_1 : decode cX11_trialTakesAlike 1 = .ok (.istore_n 1, 1) := by decide +kernel
theorem dX11_trialTakesAlike_2 : decode cX11_trialTakesAlike 2 = .ok (.iload_n 1, 1) := by decide +kernel
theorem dX11_trialTakesAlike_3 : decode cX11_trialTakesAlike 3 = .ok (.aload_n 0, 1) := by decide +kernel
theorem dX11_trialTakesAlike_4 : decode cX11_trialTakesAlike 4 = .ok (.getfield 33, 3) := by decide +kernel
theorem dX11_trialTakesAlike_7 : decode cX11_trialTakesAlike 7 = .ok (.getfield 231, 3) := by decide +kernel
theorem dX11_trialTakesAlike_10 : decode cX11_trialTakesAlike 10 = .ok (.if_icmp .ge 49, 3) := by decide +kernel
theorem dX11_trialTakesAlike_13 : decode cX11_trialTakesAlike 13 = .ok (.aload_n 0, 1) := by decide +kernel
theorem dX11_trialTakesAlike_14 : decode cX11_trialTakesAlike 14 = .ok (.getfield 33, 3) := by decide +kernel
theorem dX11_trialTakesAlike_17 : decode cX11_trialTakesAlike 17 = .ok (.getfield 232, 3) := by decide +kernel
theorem dX11_trialTakesAlike_20 : decode cX11_trialTakesAlike 20 = .ok (.iload_n 1, 1) := by decide +kernel
theorem dX11_trialTakesAlike_21 : decode cX11_trialTakesAlike 21 = .ok (.iaload, 1) := by decide +kernel
theorem dX11_trialTakesAlike_22 : decode cX11_trialTakesAlike 22 = .ok (.istore_n 2, 1) := by decide +kernel
theorem dX11_trialTakesAlike_23 : decode cX11_trialTakesAlike 23 = .ok (.aload_n 0, 1) := by decide +kernel
theorem dX11_trialTakesAlike_24 : decode cX11_trialTakesAlike 24 = .ok (.getfield 43, 3) := by decide +kernel
theorem dX11_trialTakesAlike_27 : decode cX11_trialTakesAlike 27 = .ok (.aload_n 0, 1) := by decide +kernel
theorem dX11_trialTakesAlike_28 : decode cX11_trialTakesAlike 28 = .ok (.getfield 71, 3) := by decide +kernel
theorem dX11_trialTakesAlike_31 : decode cX11_trialTakesAlike 31 = .ok (.iload_n 2, 1) := by decide +kernel
theorem dX11_trialTakesAlike_32 : decode cX11_trialTakesAlike 32 = .ok (.invokevirtual 356, 3) := by decide +kernel
theorem dX11_trialTakesAlike_35 : decode cX11_trialTakesAlike 35 = .ok (.aload_n 0, 1) := by decide +kernel
theorem dX11_trialTakesAlike_36 : decode cX11_trialTakesAlike 36 = .ok (.getfield 47, 3) := by decide +kernel
theorem dX11_trialTakesAlike_39 : decode cX11_trialTakesAlike 39 = .ok (.aload_n 0, 1) := by decide +kernel
theorem dX11_trialTakesAlike_40 : decode cX11_trialTakesAlike 40 = .ok (.getfield 71, 3) := by decide +kernel
theorem dX11_trialTakesAlike_43 : decode cX11_trialTakesAlike 43 = .ok (.iload_n 2, 1) := by decide +kernel
theorem dX11_trialTakesAlike_44 : decode cX11_trialTakesAlike 44 = .ok (.invokevirtual 356, 3) := by decide +kernel
theorem dX11_trialTakesAlike_47 : decode cX11_trialTakesAlike 47 = .ok (.lcmp, 1) := by decide +kernel
theorem dX11_trialTakesAlike_48 : decode cX11_trialTakesAlike 48 = .ok (.ifCond .eq 5, 3) := by decide +kernel
theorem dX11_trialTakesAlike_51 : decode cX11_trialTakesAlike 51 = .ok (.iconst 0, 1) := by decide +kernel
theorem dX11_trialTakesAlike_52 : decode cX11_trialTakesAlike 52 = .ok (.ireturn, 1) := by decide +kernel
theorem dX11_trialTakesAlike_53 : decode cX11_trialTakesAlike 53 = .ok (.iinc 1 1, 3) := by decide +kernel
theorem dX11_trialTakesAlike_56 : decode cX11_trialTakesAlike 56 = .ok (.goto (-54), 3) := by decide +kernel
theorem dX11_trialTakesAlike_59 : decode cX11_trialTakesAlike 59 = .ok (.iconst 1, 1) := by decide +kernel
theorem dX11_trialTakesAlike_60 : decode cX11_trialTakesAlike 60 = .ok (.ireturn, 1) := by decide +kernel
theorem dX11_best_0 : decode cX11_best 0 = .ok (.aload_n 0, 1) := by decide +kernel
theorem dX11_best_1 : decode cX11_best 1 = .ok (.invokevirtual 204, 3) := by decide +kernel
theorem dX11_best_4 : decode cX11_best 4 = .ok (.ifCond .eq 12, 3) := by decide +kernel
theorem dX11_best_7 : decode cX11_best 7 = .ok (.iload_n 1, 1) := by decide +kernel
theorem dX11_best_8 : decode cX11_best 8 = .ok (.ifCond .lt 8, 3) := by decide +kernel
theorem dX11_best_11 : decode cX11_best 11 = .ok (.iload_n 1, 1) := by decide +kernel
theorem dX11_best_12 : decode cX11_best 12 = .ok (.iconst 1, 1) := by decide +kernel
theorem dX11_best_13 : decode cX11_best 13 = .ok (.if_icmp .le 5, 3) := by decide +kernel
theorem dX11_best_16 : decode cX11_best 16 = .ok (.iconst (-1), 1) := by decide +kernel
theorem dX11_best_17 : decode cX11_best 17 = .ok (.ireturn, 1) := by decide +kernel
theorem dX11_best_18 : decode cX11_best 18 = .ok (.aload_n 0, 1) := by decide +kernel
theorem dX11_best_19 : decode cX11_best 19 = .ok (.aload_n 0, 1) := by decide +kernel
theorem dX11_best_20 : decode cX11_best 20 = .ok (.getfield 43, 3) := by decide +kernel
theorem dX11_best_23 : decode cX11_best 23 = .ok (.invokevirtual 360, 3) := by decide +kernel
theorem dX11_best_26 : decode cX11_best 26 = .ok (.istore_n 2, 1) := by decide +kernel
theorem dX11_best_27 : decode cX11_best 27 = .ok (.iconst (-1), 1) := by decide +kernel
theorem dX11_best_28 : decode cX11_best 28 = .ok (.istore_n 3, 1) := by decide +kernel
theorem dX11_best_29 : decode cX11_best 29 = .ok (.iconst 0, 1) := by decide +kernel
theorem dX11_best_30 : decode cX11_best 30 = .ok (.istore 4, 2) := by decide +kernel
theorem dX11_best_32 : decode cX11_best 32 = .ok (.iload 4, 2) := by decide +kernel
theorem dX11_best_34 : decode cX11_best 34 = .ok (.iconst 1, 1) := by decide +kernel
theorem dX11_best_35 : decode cX11_best 35 = .ok (.iadd, 1) := by decide +kernel
theorem dX11_best_36 : decode cX11_best 36 = .ok (.aload_n 0, 1) := by decide +kernel
theorem dX11_best_37 : decode cX11_best 37 = .ok (.getfield 43, 3) := by decide +kernel
theorem dX11_best_40 : decode cX11_best 40 = .ok (.getfield 176, 3) := by decide +kernel
theorem dX11_best_43 : decode cX11_best 43 = .ok (.if_icmp .ge 62, 3) := by decide +kernel
theorem dX11_best_46 : decode cX11_best 46 = .ok (.aload_n 0, 1) := by decide +kernel
theorem dX11_best_47 : decode cX11_best 47 = .ok (.getfield 47, 3) := by decide +kernel
theorem dX11_best_50 : decode cX11_best 50 = .ok (.aload_n 0, 1) := by decide +kernel
theorem dX11_best_51 : decode cX11_best 51 = .ok (.getfield 43, 3) := by decide +kernel
theorem dX11_best_54 : decode cX11_best 54 = .ok (.invokevirtual 347, 3) := by decide +kernel
theorem dX11_best_57 : decode cX11_best 57 = .ok (.aload_n 0, 1) := by decide +kernel
theorem dX11_best_58 : decode cX11_best 58 = .ok (.getfield 47, 3) := by decide +kernel
theorem dX11_best_61 : decode cX11_best 61 = .ok (.iload 4, 2) := by decide +kernel
theorem dX11_best_63 : decode cX11_best 63 = .ok (.iload 4, 2) := by decide +kernel
theorem dX11_best_65 : decode cX11_best 65 = .ok (.iconst 1, 1) := by decide +kernel
theorem dX11_best_66 : decode cX11_best 66 = .ok (.iadd, 1) := by decide +kernel
theorem dX11_best_67 : decode cX11_best 67 = .ok (.invokevirtual 350, 3) := by decide +kernel
theorem dX11_best_70 : decode cX11_best 70 = .ok (.aload_n 0, 1) := by decide +kernel
theorem dX11_best_71 : decode cX11_best 71 = .ok (.invokevirtual 353, 3) := by decide +kernel
theorem dX11_best_74 : decode cX11_best 74 = .ok (.ifCond .eq 25, 3) := by decide +kernel
theorem dX11_best_77 : decode cX11_best 77 = .ok (.aload_n 0, 1) := by decide +kernel
theorem dX11_best_78 : decode cX11_best 78 = .ok (.aload_n 0, 1) := by decide +kernel
theorem dX11_best_79 : decode cX11_best 79 = .ok (.getfield 47, 3) := by decide +kernel
theorem dX11_best_82 : decode cX11_best 82 = .ok (.invokevirtual 360, 3) := by decide +kernel
theorem dX11_best_85 : decode cX11_best 85 = .ok (.istore 5, 2) := by decide +kernel
theorem dX11_best_87 : decode cX11_best 87 = .ok (.iload 5, 2) := by decide +kernel
theorem dX11_best_89 : decode cX11_best 89 = .ok (.iload_n 2, 1) := by decide +kernel
theorem dX11_best_90 : decode cX11_best 90 = .ok (.if_icmp .ge 9, 3) := by decide +kernel
theorem dX11_best_93 : decode cX11_best 93 = .ok (.iload 5, 2) := by decide +kernel
theorem dX11_best_95 : decode cX11_best 95 = .ok (.istore_n 2, 1) := by decide +kernel
theorem dX11_best_96 : decode cX11_best 96 = .ok (.iload 4, 2) := by decide +kernel
theorem dX11_best_98 : decode cX11_best 98 = .ok (.istore_n 3, 1) := by decide +kernel
theorem dX11_best_99 : decode cX11_best 99 = .ok (.iinc 4 1, 3) := by decide +kernel
theorem dX11_best_102 : decode cX11_best 102 = .ok (.goto (-70), 3) := by decide +kernel
theorem dX11_best_105 : decode cX11_best 105 = .ok (.iload_n 1, 1) := by decide +kernel
theorem dX11_best_106 : decode cX11_best 106 = .ok (.ifCond .ne 7, 3) := by decide +kernel
theorem dX11_best_109 : decode cX11_best 109 = .ok (.iload_n 3, 1) := by decide +kernel
theorem dX11_best_110 : decode cX11_best 110 = .ok (.goto 4, 3) := by decide +kernel
theorem dX11_best_113 : decode cX11_best 113 = .ok (.iload_n 2, 1) := by decide +kernel
theorem dX11_best_114 : decode cX11_best 114 = .ok (.ireturn, 1) := by decide +kernel
theorem dX11_allTests_0 : decode cX11_allTests 0 = .ok (.aload_n 0, 1) := by decide +kernel
theorem dX11_allTests_1 : decode cX11_allTests 1 = .ok (.getfield 92, 3) := by decide +kernel
theorem dX11_allTests_4 : decode cX11_allTests 4 = .ok (.aload_n 1, 1) := by decide +kernel
theorem dX11_allTests_5 : decode cX11_allTests 5 = .ok (.aload_n 1, 1) := by decide +kernel
theorem dX11_allTests_6 : decode cX11_allTests 6 = .ok (.getfield 180, 3) := by decide +kernel
theorem dX11_allTests_9 : decode cX11_allTests 9 = .ok (.invokevirtual 306, 3) := by decide +kernel
theorem dX11_allTests_12 : decode cX11_allTests 12 = .ok (.invokestatic 320, 3) := by decide +kernel
theorem dX11_allTests_15 : decode cX11_allTests 15 = .ok (.ireturn, 1) := by decide +kernel
theorem dX11_see_0 : decode cX11_see 0 = .ok (.aload_n 0, 1) := by decide +kernel
theorem dX11_see_1 : decode cX11_see 1 = .ok (.invokevirtual 204, 3) := by decide +kernel
theorem dX11_see_4 : decode cX11_see 4 = .ok (.ifCond .eq 29, 3) := by decide +kernel
theorem dX11_see_7 : decode cX11_see 7 = .ok (.aload_n 0, 1) := by decide +kernel
theorem dX11_see_8 : decode cX11_see 8 = .ok (.getfield 60, 3) := by decide +kernel
theorem dX11_see_11 : decode cX11_see 11 = .ok (.aload_n 0, 1) := by decide +kernel
theorem dX11_see_12 : decode cX11_see 12 = .ok (.getfield 14, 3) := by decide +kernel
theorem dX11_see_15 : decode cX11_see 15 = .ok (.aload_n 0, 1) := by decide +kernel
theorem dX11_see_16 : decode cX11_see 16 = .ok (.getfield 71, 3) := by decide +kernel
theorem dX11_see_19 : decode cX11_see 19 = .ok (.aload_n 0, 1) := by decide +kernel
theorem dX11_see_20 : decode cX11_see 20 = .ok (.getfield 43, 3) := by decide +kernel
theorem dX11_see_23 : decode cX11_see 23 = .ok (.invokevirtual 364, 3) := by decide +kernel
theorem dX11_see_26 : decode cX11_see 26 = .ok (.ifCond .eq 7, 3) := by decide +kernel
theorem dX11_see_29 : decode cX11_see 29 = .ok (.iconst 1, 1) := by decide +kernel
theorem dX11_see_30 : decode cX11_see 30 = .ok (.goto 4, 3) := by decide +kernel
theorem dX11_see_33 : decode cX11_see 33 = .ok (.iconst 0, 1) := by decide +kernel
theorem dX11_see_34 : decode cX11_see 34 = .ok (.istore_n 1, 1) := by decide +kernel
theorem dX11_see_35 : decode cX11_see 35 = .ok (.aload_n 0, 1) := by decide +kernel
theorem dX11_see_36 : decode cX11_see 36 = .ok (.getfield 14, 3) := by decide +kernel
theorem dX11_see_39 : decode cX11_see 39 = .ok (.iconst 0, 1) := by decide +kernel
theorem dX11_see_40 : decode cX11_see 40 = .ok (.putfield 100, 3) := by decide +kernel
theorem dX11_see_43 : decode cX11_see 43 = .ok (.iload_n 1, 1) := by decide +kernel
theorem dX11_see_44 : decode cX11_see 44 = .ok (.ifCond .ne 11, 3) := by decide +kernel
theorem dX11_see_47 : decode cX11_see 47 = .ok (.aload_n 0, 1) := by decide +kernel
theorem dX11_see_48 : decode cX11_see 48 = .ok (.iconst 5, 1) := by decide +kernel
theorem dX11_see_49 : decode cX11_see 49 = .ok (.invokevirtual 103, 3) := by decide +kernel
theorem dX11_see_52 : decode cX11_see 52 = .ok (.pop, 1) := by decide +kernel
theorem dX11_see_53 : decode cX11_see 53 = .ok (.iconst (-1), 1) := by decide +kernel
theorem dX11_see_54 : decode cX11_see 54 = .ok (.ireturn, 1) := by decide +kernel
theorem dX11_see_55 : decode cX11_see 55 = .ok (.aload_n 0, 1) := by decide +kernel
theorem dX11_see_56 : decode cX11_see 56 = .ok (.getfield 60, 3) := by decide +kernel
theorem dX11_see_59 : decode cX11_see 59 = .ok (.getfield 153, 3) := by decide +kernel
theorem dX11_see_62 : decode cX11_see 62 = .ok (.ireturn, 1) := by decide +kernel
theorem dX11_sets_0 : decode cX11_sets 0 = .ok (.aload_n 0, 1) := by decide +kernel
theorem dX11_sets_1 : decode cX11_sets 1 = .ok (.invokevirtual 204, 3) := by decide +kernel
theorem dX11_sets_4 : decode cX11_sets 4 = .ok (.ifCond .eq 8, 3) := by decide +kernel
theorem dX11_sets_7 : decode cX11_sets 7 = .ok (.iload_n 1, 1) := by decide +kernel
theorem dX11_sets_8 : decode cX11_sets 8 = .ok (.iconst (-1), 1) := by decide +kernel
theorem dX11_sets_9 : decode cX11_sets 9 = .ok (.if_icmp .ge 5, 3) := by decide +kernel
theorem dX11_sets_12 : decode cX11_sets 12 = .ok (.iconst (-1), 1) := by decide +kernel
theorem dX11_sets_13 : decode cX11_sets 13 = .ok (.ireturn, 1) := by decide +kernel
theorem dX11_sets_14 : decode cX11_sets 14 = .ok (.aload_n 0, 1) := by decide +kernel
theorem dX11_sets_15 : decode cX11_sets 15 = .ok (.getfield 60, 3) := by decide +kernel
theorem dX11_sets_18 : decode cX11_sets 18 = .ok (.aload_n 0, 1) := by decide +kernel
theorem dX11_sets_19 : decode cX11_sets 19 = .ok (.getfield 71, 3) := by decide +kernel
theorem dX11_sets_22 : decode cX11_sets 22 = .ok (.aload_n 0, 1) := by decide +kernel
theorem dX11_sets_23 : decode cX11_sets 23 = .ok (.getfield 43, 3) := by decide +kernel
theorem dX11_sets_26 : decode cX11_sets 26 = .ok (.invokevirtual 368, 3) := by decide +kernel
theorem dX11_sets_29 : decode cX11_sets 29 = .ok (.iload_n 1, 1) := by decide +kernel
theorem dX11_sets_30 : decode cX11_sets 30 = .ok (.iconst (-1), 1) := by decide +kernel
theorem dX11_sets_31 : decode cX11_sets 31 = .ok (.if_icmp .ne 11, 3) := by decide +kernel
theorem dX11_sets_34 : decode cX11_sets 34 = .ok (.aload_n 0, 1) := by decide +kernel
theorem dX11_sets_35 : decode cX11_sets 35 = .ok (.getfield 60, 3) := by decide +kernel
theorem dX11_sets_38 : decode cX11_sets 38 = .ok (.getfield 372, 3) := by decide +kernel
theorem dX11_sets_41 : decode cX11_sets 41 = .ok (.ireturn, 1) := by decide +kernel
theorem dX11_sets_42 : decode cX11_sets 42 = .ok (.iload_n 1, 1) := by decide +kernel
theorem dX11_sets_43 : decode cX11_sets 43 = .ok (.aload_n 0, 1) := by decide +kernel
theorem dX11_sets_44 : decode cX11_sets 44 = .ok (.getfield 60, 3) := by decide +kernel
theorem dX11_sets_47 : decode cX11_sets 47 = .ok (.getfield 372, 3) := by decide +kernel
theorem dX11_sets_50 : decode cX11_sets 50 = .ok (.if_icmp .ge 15, 3) := by decide +kernel
theorem dX11_sets_53 : decode cX11_sets 53 = .ok (.aload_n 0, 1) := by decide +kernel
theorem dX11_sets_54 : decode cX11_sets 54 = .ok (.getfield 60, 3) := by decide +kernel
theorem dX11_sets_57 : decode cX11_sets 57 = .ok (.getfield 375, 3) := by decide +kernel
theorem dX11_sets_60 : decode cX11_sets 60 = .ok (.iload_n 1, 1) := by decide +kernel
theorem dX11_sets_61 : decode cX11_sets 61 = .ok (.iaload, 1) := by decide +kernel
theorem dX11_sets_62 : decode cX11_sets 62 = .ok (.goto 4, 3) := by decide +kernel
theorem dX11_sets_65 : decode cX11_sets 65 = .ok (.iconst (-1), 1) := by decide +kernel
theorem dX11_sets_66 : decode cX11_sets 66 = .ok (.ireturn, 1) := by decide +kernel
theorem dX11_tells_0 : decode cX11_tells 0 = .ok (.aload_n 0, 1) := by decide +kernel
theorem dX11_tells_1 : decode cX11_tells 1 = .ok (.invokevirtual 204, 3) := by decide +kernel
theorem dX11_tells_4 : decode cX11_tells 4 = .ok (.ifCond .eq 12, 3) := by decide +kernel
theorem dX11_tells_7 : decode cX11_tells 7 = .ok (.iload_n 1, 1) := by decide +kernel
theorem dX11_tells_8 : decode cX11_tells 8 = .ok (.ifCond .lt 8, 3) := by decide +kernel
theorem dX11_tells_11 : decode cX11_tells 11 = .ok (.iload_n 1, 1) := by decide +kernel
theorem dX11_tells_12 : decode cX11_tells 12 = .ok (.iconst 1, 1) := by decide +kernel
theorem dX11_tells_13 : decode cX11_tells 13 = .ok (.if_icmp .le 5, 3) := by decide +kernel
theorem dX11_tells_16 : decode cX11_tells 16 = .ok (.iconst (-1), 1) := by decide +kernel
theorem dX11_tells_17 : decode cX11_tells 17 = .ok (.ireturn, 1) := by decide +kernel
theorem dX11_tells_18 : decode cX11_tells 18 = .ok (.aload_n 0, 1) := by decide +kernel
theorem dX11_tells_19 : decode cX11_tells 19 = .ok (.getfield 60, 3) := by decide +kernel
theorem dX11_tells_22 : decode cX11_tells 22 = .ok (.aload_n 0, 1) := by decide +kernel
theorem dX11_tells_23 : decode cX11_tells 23 = .ok (.getfield 71, 3) := by decide +kernel
theorem dX11_tells_26 : decode cX11_tells 26 = .ok (.aload_n 0, 1) := by decide +kernel
theorem dX11_tells_27 : decode cX11_tells 27 = .ok (.getfield 43, 3) := by decide +kernel
theorem dX11_tells_30 : decode cX11_tells 30 = .ok (.invokevirtual 368, 3) := by decide +kernel
theorem dX11_tells_33 : decode cX11_tells 33 = .ok (.aload_n 0, 1) := by decide +kernel
theorem dX11_tells_34 : decode cX11_tells 34 = .ok (.getfield 60, 3) := by decide +kernel
theorem dX11_tells_37 : decode cX11_tells 37 = .ok (.getfield 372, 3) := by decide +kernel
theorem dX11_tells_40 : decode cX11_tells 40 = .ok (.ifCond .ne 5, 3) := by decide +kernel
theorem dX11_tells_43 : decode cX11_tells 43 = .ok (.iconst (-1), 1) := by decide +kernel
theorem dX11_tells_44 : decode cX11_tells 44 = .ok (.ireturn, 1) := by decide +kernel
theorem dX11_tells_45 : decode cX11_tells 45 = .ok (.iconst (-1), 1) := by decide +kernel
theorem dX11_tells_46 : decode cX11_tells 46 = .ok (.istore_n 2, 1) := by decide +kernel
theorem dX11_tells_47 : decode cX11_tells 47 = .ok (.iconst 0, 1) := by decide +kernel
theorem dX11_tells_48 : decode cX11_tells 48 = .ok (.istore_n 3, 1) := by decide +kernel
theorem dX11_tells_49 : decode cX11_tells 49 = .ok (.aload_n 0, 1) := by decide +kernel
theorem dX11_tells_50 : decode cX11_tells 50 = .ok (.getfield 24, 3) := by decide +kernel
theorem dX11_tells_53 : decode cX11_tells 53 = .ok (.invokevirtual 378, 3) := by decide +kernel
theorem dX11_tells_56 : decode cX11_tells 56 = .ok (.iconst 0, 1) := by decide +kernel
theorem dX11_tells_57 : decode cX11_tells 57 = .ok (.istore 4, 2) := by decide +kernel
theorem dX11_tells_59 : decode cX11_tells 59 = .ok (.iload 4, 2) := by decide +kernel
theorem dX11_tells_61 : decode cX11_tells 61 = .ok (.sipush 1000, 3) := by decide +kernel
theorem dX11_tells_64 : decode cX11_tells 64 = .ok (.if_icmp .ge 80, 3) := by decide +kernel
theorem dX11_tells_67 : decode cX11_tells 67 = .ok (.iload 4, 2) := by decide +kernel
theorem dX11_tells_69 : decode cX11_tells 69 = .ok (.aload_n 0, 1) := by decide +kernel
theorem dX11_tells_70 : decode cX11_tells 70 = .ok (.getfield 71, 3) := by decide +kernel
theorem dX11_tells_73 : decode cX11_tells 73 = .ok (.getfield 173, 3) := by decide +kernel
theorem dX11_tells_76 : decode cX11_tells 76 = .ok (.if_icmp .ge 68, 3) := by decide +kernel
theorem dX11_tells_79 : decode cX11_tells 79 = .ok (.aload_n 0, 1) := by decide +kernel
theorem dX11_tells_80 : decode cX11_tells 80 = .ok (.getfield 71, 3) := by decide +kernel
theorem dX11_tells_83 : decode cX11_tells 83 = .ok (.iload 4, 2) := by decide +kernel
theorem dX11_tells_85 : decode cX11_tells 85 = .ok (.invokevirtual 255, 3) := by decide +kernel
theorem dX11_tells_88 : decode cX11_tells 88 = .ok (.istore 5, 2) := by decide +kernel
theorem dX11_tells_90 : decode cX11_tells 90 = .ok (.aload_n 0, 1) := by decide +kernel
theorem dX11_tells_91 : decode cX11_tells 91 = .ok (.getfield 24, 3) := by decide +kernel
theorem dX11_tells_94 : decode cX11_tells 94 = .ok (.iload 5, 2) := by decide +kernel
theorem dX11_tells_96 : decode cX11_tells 96 = .ok (.invokevirtual 381, 3) := by decide +kernel
theorem dX11_tells_99 : decode cX11_tells 99 = .ok (.ifCond .eq 39, 3) := by decide +kernel
theorem dX11_tells_102 : decode cX11_tells 102 = .ok (.aload_n 0, 1) := by decide +kernel
theorem dX11_tells_103 : decode cX11_tells 103 = .ok (.getfield 60, 3) := by decide +kernel
theorem dX11_tells_106 : decode cX11_tells 106 = .ok (.aload_n 0, 1) := by decide +kernel
theorem dX11_tells_107 : decode cX11_tells 107 = .ok (.getfield 71, 3) := by decide +kernel
theorem dX11_tells_110 : decode cX11_tells 110 = .ok (.aload_n 0, 1) := by decide +kernel
theorem dX11_tells_111 : decode cX11_tells 111 = .ok (.getfield 43, 3) := by decide +kernel
theorem dX11_tells_114 : decode cX11_tells 114 = .ok (.iload 5, 2) := by decide +kernel
theorem dX11_tells_116 : decode cX11_tells 116 = .ok (.invokevirtual 384, 3) := by decide +kernel
theorem dX11_tells_119 : decode cX11_tells 119 = .ok (.istore 6, 2) := by decide +kernel
theorem dX11_tells_121 : decode cX11_tells 121 = .ok (.iload_n 2, 1) := by decide +kernel
theorem dX11_tells_122 : decode cX11_tells 122 = .ok (.iconst (-1), 1) := by decide +kernel
theorem dX11_tells_123 : decode cX11_tells 123 = .ok (.if_icmp .eq 9, 3) := by decide +kernel
theorem dX11_tells_126 : decode cX11_tells 126 = .ok (.iload 6, 2) := by decide +kernel
theorem dX11_tells_128 : decode cX11_tells 128 = .ok (.iload_n 3, 1) := by decide +kernel
theorem dX11_tells_129 : decode cX11_tells 129 = .ok (.if_icmp .ge 9, 3) := by decide +kernel
theorem dX11_tells_132 : decode cX11_tells 132 = .ok (.iload 4, 2) := by decide +kernel
theorem dX11_tells_134 : decode cX11_tells 134 = .ok (.istore_n 2, 1) := by decide +kernel
theorem dX11_tells_135 : decode cX11_tells 135 = .ok (.iload 6, 2) := by decide +kernel
theorem dX11_tells_137 : decode cX11_tells 137 = .ok (.istore_n 3, 1) := by decide +kernel
theorem dX11_tells_138 : decode cX11_tells 138 = .ok (.iinc 4 1, 3) := by decide +kernel
theorem dX11_tells_141 : decode cX11_tells 141 = .ok (.goto (-82), 3) := by decide +kernel
theorem dX11_tells_144 : decode cX11_tells 144 = .ok (.iload_n 1, 1) := by decide +kernel
theorem dX11_tells_145 : decode cX11_tells 145 = .ok (.ifCond .ne 7, 3) := by decide +kernel
theorem dX11_tells_148 : decode cX11_tells 148 = .ok (.iload_n 2, 1) := by decide +kernel
theorem dX11_tells_149 : decode cX11_tells 149 = .ok (.goto 4, 3) := by decide +kernel
theorem dX11_tells_152 : decode cX11_tells 152 = .ok (.iload_n 3, 1) := by decide +kernel
theorem dX11_tells_153 : decode cX11_tells 153 = .ok (.ireturn, 1) := by decide +kernel
theorem dX11_run_0 : decode cX11_run 0 = .ok (.aload_n 0, 1) := by decide +kernel
theorem dX11_run_1 : decode cX11_run 1 = .ok (.getfield 71, 3) := by decide +kernel
theorem dX11_run_4 : decode cX11_run 4 = .ok (.iload_n 1, 1) := by decide +kernel
theorem dX11_run_5 : decode cX11_run 5 = .ok (.invokevirtual 258, 3) := by decide +kernel
theorem dX11_run_8 : decode cX11_run 8 = .ok (.ifCond .ne 11, 3) := by decide +kernel
theorem dX11_run_11 : decode cX11_run 11 = .ok (.aload_n 0, 1) := by decide +kernel
theorem dX11_run_12 : decode cX11_run 12 = .ok (.iconst 2, 1) := by decide +kernel
theorem dX11_run_13 : decode cX11_run 13 = .ok (.invokevirtual 103, 3) := by decide +kernel
theorem dX11_run_16 : decode cX11_run 16 = .ok (.pop, 1) := by decide +kernel
theorem dX11_run_17 : decode cX11_run 17 = .ok (.iconst (-1), 1) := by decide +kernel
theorem dX11_run_18 : decode cX11_run 18 = .ok (.ireturn, 1) := by decide +kernel
theorem dX11_run_19 : decode cX11_run 19 = .ok (.aload_n 0, 1) := by decide +kernel
theorem dX11_run_20 : decode cX11_run 20 = .ok (.invokevirtual 388, 3) := by decide +kernel
theorem dX11_run_23 : decode cX11_run 23 = .ok (.aload_n 0, 1) := by decide +kernel
theorem dX11_run_24 : decode cX11_run 24 = .ok (.iload_n 1, 1) := by decide +kernel
theorem dX11_run_25 : decode cX11_run 25 = .ok (.invokevirtual 391, 3) := by decide +kernel
theorem dX11_run_28 : decode cX11_run 28 = .ok (.ireturn, 1) := by decide +kernel
theorem dX11_runRow_0 : decode cX11_runRow 0 = .ok (.aload_n 0, 1) := by decide +kernel
theorem dX11_runRow_1 : decode cX11_runRow 1 = .ok (.getfield 43, 3) := by decide +kernel
theorem dX11_runRow_4 : decode cX11_runRow 4 = .ok (.aload_n 0, 1) := by decide +kernel
theorem dX11_runRow_5 : decode cX11_runRow 5 = .ok (.getfield 71, 3) := by decide +kernel
theorem dX11_runRow_8 : decode cX11_runRow 8 = .ok (.aload_n 0, 1) := by decide +kernel
theorem dX11_runRow_9 : decode cX11_runRow 9 = .ok (.getfield 71, 3) := by decide +kernel
theorem dX11_runRow_12 : decode cX11_runRow 12 = .ok (.iload_n 1, 1) := by decide +kernel
theorem dX11_runRow_13 : decode cX11_runRow 13 = .ok (.invokevirtual 255, 3) := by decide +kernel
theorem dX11_runRow_16 : decode cX11_runRow 16 = .ok (.aload_n 0, 1) := by decide +kernel
theorem dX11_runRow_17 : decode cX11_runRow 17 = .ok (.getfield 43, 3) := by decide +kernel
theorem dX11_runRow_20 : decode cX11_runRow 20 = .ok (.getfield 177, 3) := by decide +kernel
theorem dX11_runRow_23 : decode cX11_runRow 23 = .ok (.invokevirtual 241, 3) := by decide +kernel
theorem dX11_runRow_26 : decode cX11_runRow 26 = .ok (.istore_n 2, 1) := by decide +kernel
theorem dX11_runRow_27 : decode cX11_runRow 27 = .ok (.aload_n 0, 1) := by decide +kernel
theorem dX11_runRow_28 : decode cX11_runRow 28 = .ok (.getfield 53, 3) := by decide +kernel
theorem dX11_runRow_31 : decode cX11_runRow 31 = .ok (.iload_n 1, 1) := by decide +kernel
theorem dX11_runRow_32 : decode cX11_runRow 32 = .ok (.aload_n 0, 1) := by decide +kernel
theorem dX11_runRow_33 : decode cX11_runRow 33 = .ok (.getfield 43, 3) := by decide +kernel
theorem dX11_runRow_36 : decode cX11_runRow 36 = .ok (.iload_n 2, 1) := by decide +kernel
theorem dX11_runRow_37 : decode cX11_runRow 37 = .ok (.invokevirtual 212, 3) := by decide +kernel
theorem dX11_runRow_40 : decode cX11_runRow 40 = .ok (.aload_n 0, 1) := by decide +kernel
theorem dX11_runRow_41 : decode cX11_runRow 41 = .ok (.getfield 92, 3) := by decide +kernel
theorem dX11_runRow_44 : decode cX11_runRow 44 = .ok (.aload_n 0, 1) := by decide +kernel
theorem dX11_runRow_45 : decode cX11_runRow 45 = .ok (.getfield 43, 3) := by decide +kernel
theorem dX11_runRow_48 : decode cX11_runRow 48 = .ok (.iload_n 1, 1) := by decide +kernel
theorem dX11_runRow_49 : decode cX11_runRow 49 = .ok (.invokevirtual 394, 3) := by decide +kernel
theorem dX11_runRow_52 : decode cX11_runRow 52 = .ok (.invokevirtual 397, 3) := by decide +kernel
theorem dX11_runRow_55 : decode cX11_runRow 55 = .ok (.iload_n 2, 1) := by decide +kernel
theorem dX11_runRow_56 : decode cX11_runRow 56 = .ok (.ireturn, 1) := by decide +kernel
theorem dX11_chance_0 : decode cX11_chance 0 = .ok (.aload_n 0, 1) := by decide +kernel
theorem dX11_chance_1 : decode cX11_chance 1 = .ok (.invokevirtual 204, 3) := by decide +kernel
theorem dX11_chance_4 : decode cX11_chance 4 = .ok (.ifCond .eq 14, 3) := by decide +kernel
theorem dX11_chance_7 : decode cX11_chance 7 = .ok (.iload_n 1, 1) := by decide +kernel
theorem dX11_chance_8 : decode cX11_chance 8 = .ok (.iconst 1, 1) := by decide +kernel
theorem dX11_chance_9 : decode cX11_chance 9 = .ok (.if_icmp .lt 9, 3) := by decide +kernel
theorem dX11_chance_12 : decode cX11_chance 12 = .ok (.iload_n 1, 1) := by decide +kernel
theorem dX11_chance_13 : decode cX11_chance 13 = .ok (.bipush 40, 2) := by decide +kernel
theorem dX11_chance_15 : decode cX11_chance 15 = .ok (.if_icmp .le 11, 3) := by decide +kernel
theorem dX11_chance_18 : decode cX11_chance 18 = .ok (.aload_n 0, 1) := by decide +kernel
theorem dX11_chance_19 : decode cX11_chance 19 = .ok (.iconst 2, 1) := by decide +kernel
theorem dX11_chance_20 : decode cX11_chance 20 = .ok (.invokevirtual 103, 3) := by decide +kernel
theorem dX11_chance_23 : decode cX11_chance 23 = .ok (.pop, 1) := by decide +kernel
theorem dX11_chance_24 : decode cX11_chance 24 = .ok (.iconst (-1), 1) := by decide +kernel
theorem dX11_chance_25 : decode cX11_chance 25 = .ok (.ireturn, 1) := by decide +kernel
theorem dX11_chance_26 : decode cX11_chance 26 = .ok (.aload_n 0, 1) := by decide +kernel
theorem dX11_chance_27 : decode cX11_chance 27 = .ok (.invokevirtual 388, 3) := by decide +kernel
theorem dX11_chance_30 : decode cX11_chance 30 = .ok (.iconst 0, 1) := by decide +kernel
theorem dX11_chance_31 : decode cX11_chance 31 = .ok (.istore_n 2, 1) := by decide +kernel
theorem dX11_chance_32 : decode cX11_chance 32 = .ok (.iconst 0, 1) := by decide +kernel
theorem dX11_chance_33 : decode cX11_chance 33 = .ok (.istore_n 3, 1) := by decide +kernel
theorem dX11_chance_34 : decode cX11_chance 34 = .ok (.iload_n 3, 1) := by decide +kernel
theorem dX11_chance_35 : decode cX11_chance 35 = .ok (.iload_n 1, 1) := by decide +kernel
theorem dX11_chance_36 : decode cX11_chance 36 = .ok (.if_icmp .ge 31, 3) := by decide +kernel
theorem dX11_chance_39 : decode cX11_chance 39 = .ok (.aload_n 0, 1) := by decide +kernel
theorem dX11_chance_40 : decode cX11_chance 40 = .ok (.aload_n 0, 1) := by decide +kernel
theorem dX11_chance_41 : decode cX11_chance 41 = .ok (.aload_n 0, 1) := by decide +kernel
theorem dX11_chance_42 : decode cX11_chance 42 = .ok (.getfield 71, 3) := by decide +kernel
theorem dX11_chance_45 : decode cX11_chance 45 = .ok (.getfield 173, 3) := by decide +kernel
theorem dX11_chance_48 : decode cX11_chance 48 = .ok (.invokevirtual 401, 3) := by decide +kernel
theorem dX11_chance_51 : decode cX11_chance 51 = .ok (.invokevirtual 391, 3) := by decide +kernel
theorem dX11_chance_54 : decode cX11_chance 54 = .ok (.iconst (-1), 1) := by decide +kernel
theorem dX11_chance_55 : decode cX11_chance 55 = .ok (.if_icmp .ne 6, 3) := by decide +kernel
theorem dX11_chance_58 : decode cX11_chance 58 = .ok (.iinc 2 1, 3) := by decide +kernel
theorem dX11_chance_61 : decode cX11_chance 61 = .ok (.iinc 3 1, 3) := by decide +kernel
theorem dX11_chance_64 : decode cX11_chance 64 = .ok (.goto (-30), 3) := by decide +kernel
theorem dX11_chance_67 : decode cX11_chance 67 = .ok (.iload_n 2, 1) := by decide +kernel
theorem dX11_chance_68 : decode cX11_chance 68 = .ok (.ireturn, 1) := by decide +kernel
theorem dX11_draw_0 : decode cX11_draw 0 = .ok (.aload_n 0, 1) := by decide +kernel
theorem dX11_draw_1 : decode cX11_draw 1 = .ok (.ldc_w 404, 3) := by decide +kernel
theorem dX11_draw_4 : decode cX11_draw 4 = .ok (.aload_n 0, 1) := by decide +kernel
theorem dX11_draw_5 : decode cX11_draw 5 = .ok (.getfield 96, 3) := by decide +kernel
theorem dX11_draw_8 : decode cX11_draw 8 = .ok (.imul, 1) := by decide +kernel
theorem dX11_draw_9 : decode cX11_draw 9 = .ok (.sipush 12345, 3) := by decide +kernel
theorem dX11_draw_12 : decode cX11_draw 12 = .ok (.iadd, 1) := by decide +kernel
theorem dX11_draw_13 : decode cX11_draw 13 = .ok (.ldc_w 405, 3) := by decide +kernel
theorem dX11_draw_16 : decode cX11_draw 16 = .ok (.iand, 1) := by decide +kernel
theorem dX11_draw_17 : decode cX11_draw 17 = .ok (.putfield 96, 3) := by decide +kernel
theorem dX11_draw_20 : decode cX11_draw 20 = .ok (.iload_n 1, 1) := by decide +kernel
theorem dX11_draw_21 : decode cX11_draw 21 = .ok (.ifCond .le 15, 3) := by decide +kernel
theorem dX11_draw_24 : decode cX11_draw 24 = .ok (.aload_n 0, 1) := by decide +kernel
theorem dX11_draw_25 : decode cX11_draw 25 = .ok (.getfield 96, 3) := by decide +kernel
theorem dX11_draw_28 : decode cX11_draw 28 = .ok (.bipush 6, 2) := by decide +kernel
theorem dX11_draw_30 : decode cX11_draw 30 = .ok (.ishr, 1) := by decide +kernel
theorem dX11_draw_31 : decode cX11_draw 31 = .ok (.iload_n 1, 1) := by decide +kernel
theorem dX11_draw_32 : decode cX11_draw 32 = .ok (.irem, 1) := by decide +kernel
theorem dX11_draw_33 : decode cX11_draw 33 = .ok (.goto 4, 3) := by decide +kernel
theorem dX11_draw_36 : decode cX11_draw 36 = .ok (.iconst 0, 1) := by decide +kernel
theorem dX11_draw_37 : decode cX11_draw 37 = .ok (.ireturn, 1) := by decide +kernel
theorem dX11_swap_0 : decode cX11_swap 0 = .ok (.iload_n 1, 1) := by decide +kernel
theorem dX11_swap_1 : decode cX11_swap 1 = .ok (.iload_n 2, 1) := by decide +kernel
theorem dX11_swap_2 : decode cX11_swap 2 = .ok (.if_icmp .eq 25, 3) := by decide +kernel
theorem dX11_swap_5 : decode cX11_swap 5 = .ok (.aload_n 0, 1) := by decide +kernel
theorem dX11_swap_6 : decode cX11_swap 6 = .ok (.getfield 43, 3) := by decide +kernel
theorem dX11_swap_9 : decode cX11_swap 9 = .ok (.iload_n 1, 1) := by decide +kernel
theorem dX11_swap_10 : decode cX11_swap 10 = .ok (.invokevirtual 344, 3) := by decide +kernel
theorem dX11_swap_13 : decode cX11_swap 13 = .ok (.ifCond .eq 14, 3) := by decide +kernel
theorem dX11_swap_16 : decode cX11_swap 16 = .ok (.aload_n 0, 1) := by decide +kernel
theorem dX11_swap_17 : decode cX11_swap 17 = .ok (.getfield 43, 3) := by decide +kernel
theorem dX11_swap_20 : decode cX11_swap 20 = .ok (.iload_n 2, 1) := by decide +kernel
theorem dX11_swap_21 : decode cX11_swap 21 = .ok (.invokevirtual 344, 3) := by decide +kernel
theorem dX11_swap_24 : decode cX11_swap 24 = .ok (.ifCond .ne 9, 3) := by decide +kernel
theorem dX11_swap_27 : decode cX11_swap 27 = .ok (.aload_n 0, 1) := by decide +kernel
theorem dX11_swap_28 : decode cX11_swap 28 = .ok (.iconst 3, 1) := by decide +kernel
theorem dX11_swap_29 : decode cX11_swap 29 = .ok (.invokevirtual 103, 3) := by decide +kernel
theorem dX11_swap_32 : decode cX11_swap 32 = .ok (.ireturn, 1) := by decide +kernel
theorem dX11_swap_33 : decode cX11_swap 33 = .ok (.aload_n 0, 1) := by decide +kernel
theorem dX11_swap_34 : decode cX11_swap 34 = .ok (.invokevirtual 388, 3) := by decide +kernel
theorem dX11_swap_37 : decode cX11_swap 37 = .ok (.aload_n 0, 1) := by decide +kernel
theorem dX11_swap_38 : decode cX11_swap 38 = .ok (.getfield 43, 3) := by decide +kernel
theorem dX11_swap_41 : decode cX11_swap 41 = .ok (.iload_n 1, 1) := by decide +kernel
theorem dX11_swap_42 : decode cX11_swap 42 = .ok (.iload_n 2, 1) := by decide +kernel
theorem dX11_swap_43 : decode cX11_swap 43 = .ok (.invokevirtual 350, 3) := by decide +kernel
theorem dX11_swap_46 : decode cX11_swap 46 = .ok (.iconst 1, 1) := by decide +kernel
theorem dX11_swap_47 : decode cX11_swap 47 = .ok (.ireturn, 1) := by decide +kernel
theorem dX11_drop_0 : decode cX11_drop 0 = .ok (.aload_n 0, 1) := by decide +kernel
theorem dX11_drop_1 : decode cX11_drop 1 = .ok (.getfield 43, 3) := by decide +kernel
theorem dX11_drop_4 : decode cX11_drop 4 = .ok (.iload_n 1, 1) := by decide +kernel
theorem dX11_drop_5 : decode cX11_drop 5 = .ok (.invokevirtual 344, 3) := by decide +kernel
theorem dX11_drop_8 : decode cX11_drop 8 = .ok (.ifCond .ne 9, 3) := by decide +kernel
