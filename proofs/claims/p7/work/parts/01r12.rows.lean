section
theorem dX11_scopes_69 : decode cX11_scopes 69 = .ok (.getfield 92, 3) := by decide +kernel
theorem dX11_scopes_72 : decode cX11_scopes 72 = .ok (.getfield 334, 3) := by decide +kernel
theorem dX11_scopes_75 : decode cX11_scopes 75 = .ok (.ireturn, 1) := by decide +kernel
theorem dX11_scopes_76 : decode cX11_scopes 76 = .ok (.aload_n 0, 1) := by decide +kernel
theorem dX11_scopes_77 : decode cX11_scopes 77 = .ok (.getfield 92, 3) := by decide +kernel
theorem dX11_scopes_80 : decode cX11_scopes 80 = .ok (.getfield 337, 3) := by decide +kernel
theorem dX11_scopes_83 : decode cX11_scopes 83 = .ok (.ifCond .eq 7, 3) := by decide +kernel
theorem dX11_scopes_86 : decode cX11_scopes 86 = .ok (.iconst 1, 1) := by decide +kernel
theorem dX11_scopes_87 : decode cX11_scopes 87 = .ok (.goto 4, 3) := by decide +kernel
theorem dX11_scopes_90 : decode cX11_scopes 90 = .ok (.iconst 0, 1) := by decide +kernel
theorem dX11_scopes_91 : decode cX11_scopes 91 = .ok (.ireturn, 1) := by decide +kernel
theorem dX11_scopes_92 : decode cX11_scopes 92 = .ok (.aload_n 0, 1) := by decide +kernel
theorem dX11_scopes_93 : decode cX11_scopes 93 = .ok (.getfield 92, 3) := by decide +kernel
theorem dX11_scopes_96 : decode cX11_scopes 96 = .ok (.iload_n 3, 1) := by decide +kernel
theorem dX11_scopes_97 : decode cX11_scopes 97 = .ok (.invokevirtual 341, 3) := by decide +kernel
theorem dX11_scopes_100 : decode cX11_scopes 100 = .ok (.ireturn, 1) := by decide +kernel
theorem dX11_scopes_101 : decode cX11_scopes 101 = .ok (.iconst (-1), 1) := by decide +kernel
theorem dX11_scopes_102 : decode cX11_scopes 102 = .ok (.ireturn, 1) := by decide +kernel
theorem dX11_safe_0 : decode cX11_safe 0 = .ok (.aload_n 0, 1) := by decide +kernel
theorem dX11_safe_1 : decode cX11_safe 1 = .ok (.getfield 43, 3) := by decide +kernel
theorem dX11_safe_4 : decode cX11_safe 4 = .ok (.iload_n 1, 1) := by decide +kernel
theorem dX11_safe_5 : decode cX11_safe 5 = .ok (.invokevirtual 344, 3) := by decide +kernel
theorem dX11_safe_8 : decode cX11_safe 8 = .ok (.ifCond .eq 14, 3) := by decide +kernel
theorem dX11_safe_11 : decode cX11_safe 11 = .ok (.aload_n 0, 1) := by decide +kernel
theorem dX11_safe_12 : decode cX11_safe 12 = .ok (.getfield 43, 3) := by decide +kernel
theorem dX11_safe_15 : decode cX11_safe 15 = .ok (.iload_n 2, 1) := by decide +kernel
theorem dX11_safe_16 : decode cX11_safe 16 = .ok (.invokevirtual 344, 3) := by decide +kernel
theorem dX11_safe_19 : decode cX11_safe 19 = .ok (.ifCond .ne 5, 3) := by decide +kernel
theorem dX11_safe_22 : decode cX11_safe 22 = .ok (.iconst (-1), 1) := by decide +kernel
theorem dX11_safe_23 : decode cX11_safe 23 = .ok (.ireturn, 1) := by decide +kernel
theorem dX11_safe_24 : decode cX11_safe 24 = .ok (.aload_n 0, 1) := by decide +kernel
theorem dX11_safe_25 : decode cX11_safe 25 = .ok (.getfield 47, 3) := by decide +kernel
theorem dX11_safe_28 : decode cX11_safe 28 = .ok (.aload_n 0, 1) := by decide +kernel
theorem dX11_safe_29 : decode cX11_safe 29 = .ok (.getfield 43, 3) := by decide +kernel
theorem dX11_safe_32 : decode cX11_safe 32 = .ok (.invokevirtual 347, 3) := by decide +kernel
theorem dX11_safe_35 : decode cX11_safe 35 = .ok (.aload_n 0, 1) := by decide +kernel
theorem dX11_safe_36 : decode cX11_safe 36 = .ok (.getfield 47, 3) := by decide +kernel
theorem dX11_safe_39 : decode cX11_safe 39 = .ok (.iload_n 1, 1) := by decide +kernel
theorem dX11_safe_40 : decode cX11_safe 40 = .ok (.iload_n 2, 1) := by decide +kernel
theorem dX11_safe_41 : decode cX11_safe 41 = .ok (.invokevirtual 350, 3) := by decide +kernel
theorem dX11_safe_44 : decode cX11_safe 44 = .ok (.aload_n 0, 1) := by decide +kernel
theorem dX11_safe_45 : decode cX11_safe 45 = .ok (.invokevirtual 353, 3) := by decide +kernel
theorem dX11_safe_48 : decode cX11_safe 48 = .ok (.ifCond .eq 7, 3) := by decide +kernel
theorem dX11_safe_51 : decode cX11_safe 51 = .ok (.iconst 1, 1) := by decide +kernel
theorem dX11_safe_52 : decode cX11_safe 52 = .ok (.goto 4, 3) := by decide +kernel
theorem dX11_safe_55 : decode cX11_safe 55 = .ok (.iconst 0, 1) := by decide +kernel
theorem dX11_safe_56 : decode cX11_safe 56 = .ok (.ireturn, 1) := by decide +kernel
theorem dX11_trialTakesAlike_0 : decode cX11_trialTakesAlike 0 = .ok (.iconst 0, 1) := by decide +kernel
theorem dX11_trialTakesAlike_1 : decode cX11_trialTakesAlike 1 = .ok (.istore_n 1, 1) := by decide +kernel
theorem dX11_trialTakesAlike_2 : decode cX11_trialTakesAlike 2 = .ok (.iload_n 1, 1) := by decide +kernel
theorem dX11_trialTakesAlike_3 : decode cX11_trialTakesAlike 3 = .ok (.aload_n 0, 1) := by decide +kernel
theorem dX11_trialTakesAlike_4 : decode cX11_trialTakesAlike 4 = .ok (.getfield 33, 3) := by decide +kernel
theorem dX11_trialTakesAlike_7 : decode cX11_trialTakesAlike 7 = .ok (.getfield 231, 3) := by decide +kernel
theorem dX11_trialTakesAlike_10 : decode cX11_trialTakesAlike 10 = .ok (.if_icmp .ge 49, 3) := by decide +kernel
theorem dX11_trialTakesAlike_13 : decode cX11_trialTakesAlike 13 = .ok (.aload_n 0, 1) := by decide +kernel
theorem dX11_trialTakesAlike_14 : decode cX11_trialTakesAlike 14 = .ok (.getfield 33, 3) := by decide +kernel
theorem dX11_trialTakesAlike_17 : decode cX11_trialTakesAlike 17 = .ok (.getfield 232, 3) := by decide +kernel
theorem dX11_trialTakesAlike_20 : decode cX11_trialTakesAlike 20 = .ok (.iload_n 1, 1) := by decide +kernel
theorem dX11_trialTakesAlike_21 : decode cX11_trialTakesAlike 21 = .ok (.iaload, 1) := by decide +kernel
theorem dX11_trialTakesAlike_22 : decode cX11_trialTakesAlike 22 = .ok (.istore_n 2, 1) := by decide +kernel
theorem dX11_trialTakesAlike_23 : decode cX11_trialTakesAlike 23 = .ok (.aload_n 0, 1) := by decide +kernel
theorem dX11_trialTakesAlike_24 : decode cX11_trialTakesAlike 24 = .ok (.getfield 43, 3) := by decide +kernel
theorem dX11_trialTakesAlike_27 : decode cX11_trialTakesAlike 27 = .ok (.aload_n 0, 1) := by decide +kernel
theorem dX11_trialTakesAlike_28 : decode cX11_trialTakesAlike 28 = .ok (.getfield 71, 3) := by decide +kernel
theorem dX11_trialTakesAlike_31 : decode cX11_trialTakesAlike 31 = .ok (.iload_n 2, 1) := by decide +kernel
theorem dX11_trialTakesAlike_32 : decode cX11_trialTakesAlike 32 = .ok (.invokevirtual 356, 3) := by decide +kernel
theorem dX11_trialTakesAlike_35 : decode cX11_trialTakesAlike 35 = .ok (.aload_n 0, 1) := by decide +kernel
theorem dX11_trialTakesAlike_36 : decode cX11_trialTakesAlike 36 = .ok (.getfield 47, 3) := by decide +kernel
theorem dX11_trialTakesAlike_39 : decode cX11_trialTakesAlike 39 = .ok (.aload_n 0, 1) := by decide +kernel
theorem dX11_trialTakesAlike_40 : decode cX11_trialTakesAlike 40 = .ok (.getfield 71, 3) := by decide +kernel
theorem dX11_trialTakesAlike_43 : decode cX11_trialTakesAlike 43 = .ok (.iload_n 2, 1) := by decide +kernel
theorem dX11_trialTakesAlike_44 : decode cX11_trialTakesAlike 44 = .ok (.invokevirtual 356, 3) := by decide +kernel
theorem dX11_trialTakesAlike_47 : decode cX11_trialTakesAlike 47 = .ok (.lcmp, 1) := by decide +kernel
theorem dX11_trialTakesAlike_48 : decode cX11_trialTakesAlike 48 = .ok (.ifCond .eq 5, 3) := by decide +kernel
theorem dX11_trialTakesAlike_51 : decode cX11_trialTakesAlike 51 = .ok (.iconst 0, 1) := by decide +kernel
theorem dX11_trialTakesAlike_52 : decode cX11_trialTakesAlike 52 = .ok (.ireturn, 1) := by decide +kernel
theorem dX11_trialTakesAlike_53 : decode cX11_trialTakesAlike 53 = .ok (.iinc 1 1, 3) := by decide +kernel
theorem dX11_trialTakesAlike_56 : decode cX11_trialTakesAlike 56 = .ok (.goto (-54), 3) := by decide +kernel
theorem dX11_trialTakesAlike_59 : decode cX11_trialTakesAlike 59 = .ok (.iconst 1, 1) := by decide +kernel
theorem dX11_trialTakesAlike_60 : decode cX11_trialTakesAlike 60 = .ok (.ireturn, 1) := by decide +kernel
theorem dX11_best_0 : decode cX11_best 0 = .ok (.aload_n 0, 1) := by decide +kernel
theorem dX11_best_1 : decode cX11_best 1 = .ok (.invokevirtual 204, 3) := by decide +kernel
theorem dX11_best_4 : decode cX11_best 4 = .ok (.ifCond .eq 12, 3) := by decide +kernel
theorem dX11_best_7 : decode cX11_best 7 = .ok (.iload_n 1, 1) := by decide +kernel
theorem dX11_best_8 : decode cX11_best 8 = .ok (.ifCond .lt 8, 3) := by decide +kernel
theorem dX11_best_11 : decode cX11_best 11 = .ok (.iload_n 1, 1) := by decide +kernel
theorem dX11_best_12 : decode cX11_best 12 = .ok (.iconst 1, 1) := by decide +kernel
theorem dX11_best_13 : decode cX11_best 13 = .ok (.if_icmp .le 5, 3) := by decide +kernel
theorem dX11_best_16 : decode cX11_best 16 = .ok (.iconst (-1), 1) := by decide +kernel
theorem dX11_best_17 : decode cX11_best 17 = .ok (.ireturn, 1) := by decide +kernel
theorem dX11_best_18 : decode cX11_best 18 = .ok (.aload_n 0, 1) := by decide +kernel
theorem dX11_best_19 : decode cX11_best 19 = .ok (.aload_n 0, 1) := by decide +kernel
theorem dX11_best_20 : decode cX11_best 20 = .ok (.getfield 43, 3) := by decide +kernel
theorem dX11_best_23 : decode cX11_best 23 = .ok (.invokevirtual 360, 3) := by decide +kernel
theorem dX11_best_26 : decode cX11_best 26 = .ok (.istore_n 2, 1) := by decide +kernel
theorem dX11_best_27 : decode cX11_best 27 = .ok (.iconst (-1), 1) := by decide +kernel
theorem dX11_best_28 : decode cX11_best 28 = .ok (.istore_n 3, 1) := by decide +kernel
theorem dX11_best_29 : decode cX11_best 29 = .ok (.iconst 0, 1) := by decide +kernel
theorem dX11_best_30 : decode cX11_best 30 = .ok (.istore 4, 2) := by decide +kernel
theorem dX11_best_32 : decode cX11_best 32 = .ok (.iload 4, 2) := by decide +kernel
theorem dX11_best_34 : decode cX11_best 34 = .ok (.iconst 1, 1) := by decide +kernel
theorem dX11_best_35 : decode cX11_best 35 = .ok (.iadd, 1) := by decide +kernel
theorem dX11_best_36 : decode cX11_best 36 = .ok (.aload_n 0, 1) := by decide +kernel
theorem dX11_best_37 : decode cX11_best 37 = .ok (.getfield 43, 3) := by decide +kernel
theorem dX11_best_40 : decode cX11_best 40 = .ok (.getfield 176, 3) := by decide +kernel
theorem dX11_best_43 : decode cX11_best 43 = .ok (.if_icmp .ge 62, 3) := by decide +kernel
theorem dX11_best_46 : decode cX11_best 46 = .ok (.aload_n 0, 1) := by decide +kernel
theorem dX11_best_47 : decode cX11_best 47 = .ok (.getfield 47, 3) := by decide +kernel
theorem dX11_best_50 : decode cX11_best 50 = .ok (.aload_n 0, 1) := by decide +kernel
theorem dX11_best_51 : decode cX11_best 51 = .ok (.getfield 43, 3) := by decide +kernel
theorem dX11_best_54 : decode cX11_best 54 = .ok (.invokevirtual 347, 3) := by decide +kernel
theorem dX11_best_57 : decode cX11_best 57 = .ok (.aload_n 0, 1) := by decide +kernel
theorem dX11_best_58 : decode cX11_best 58 = .ok (.getfield 47, 3) := by decide +kernel
theorem dX11_best_61 : decode cX11_best 61 = .ok (.iload 4, 2) := by decide +kernel
theorem dX11_best_63 : decode cX11_best 63 = .ok (.iload 4, 2) := by decide +kernel
theorem dX11_best_65 : decode cX11_best 65 = .ok (.iconst 1, 1) := by decide +kernel
theorem dX11_best_66 : decode cX11_best 66 = .ok (.iadd, 1) := by decide +kernel
theorem dX11_best_67 : decode cX11_best 67 = .ok (.invokevirtual 350, 3) := by decide +kernel
theorem dX11_best_70 : decode cX11_best 70 = .ok (.aload_n 0, 1) := by decide +kernel
theorem dX11_best_71 : decode cX11_best 71 = .ok (.invokevirtual 353, 3) := by decide +kernel
theorem dX11_best_74 : decode cX11_best 74 = .ok (.ifCond .eq 25, 3) := by decide +kernel
theorem dX11_best_77 : decode cX11_best 77 = .ok (.aload_n 0, 1) := by decide +kernel
theorem dX11_best_78 : decode cX11_best 78 = .ok (.aload_n 0, 1) := by decide +kernel
theorem dX11_best_79 : decode cX11_best 79 = .ok (.getfield 47, 3) := by decide +kernel
theorem dX11_best_82 : decode cX11_best 82 = .ok (.invokevirtual 360, 3) := by decide +kernel
theorem dX11_best_85 : decode cX11_best 85 = .ok (.istore 5, 2) := by decide +kernel
theorem dX11_best_87 : decode cX11_best 87 = .ok (.iload 5, 2) := by decide +kernel
theorem dX11_best_89 : decode cX11_best 89 = .ok (.iload_n 2, 1) := by decide +kernel
theorem dX11_best_90 : decode cX11_best 90 = .ok (.if_icmp .ge 9, 3) := by decide +kernel
theorem dX11_best_93 : decode cX11_best 93 = .ok (.iload 5, 2) := by decide +kernel
theorem dX11_best_95 : decode cX11_best 95 = .ok (.istore_n 2, 1) := by decide +kernel
theorem dX11_best_96 : decode cX11_best 96 = .ok (.iload 4, 2) := by decide +kernel
theorem dX11_best_98 : decode cX11_best 98 = .ok (.istore_n 3, 1) := by decide +kernel
theorem dX11_best_99 : decode cX11_best 99 = .ok (.iinc 4 1, 3) := by decide +kernel
theorem dX11_best_102 : decode cX11_best 102 = .ok (.goto (-70), 3) := by decide +kernel
theorem dX11_best_105 : decode cX11_best 105 = .ok (.iload_n 1, 1) := by decide +kernel
theorem dX11_best_106 : decode cX11_best 106 = .ok (.ifCond .ne 7, 3) := by decide +kernel
theorem dX11_best_109 : decode cX11_best 109 = .ok (.iload_n 3, 1) := by decide +kernel
theorem dX11_best_110 : decode cX11_best 110 = .ok (.goto 4, 3) := by decide +kernel
theorem dX11_best_113 : decode cX11_best 113 = .ok (.iload_n 2, 1) := by decide +kernel
theorem dX11_best_114 : decode cX11_best 114 = .ok (.ireturn, 1) := by decide +kernel
theorem dX11_allTests_0 : decode cX11_allTests 0 = .ok (.aload_n 0, 1) := by decide +kernel
theorem dX11_allTests_1 : decode cX11_allTests 1 = .ok (.getfield 92, 3) := by decide +kernel
theorem dX11_allTests_4 : decode cX11_allTests 4 = .ok (.aload_n 1, 1) := by decide +kernel
theorem dX11_allTests_5 : decode cX11_allTests 5 = .ok (.aload_n 1, 1) := by decide +kernel
theorem dX11_allTests_6 : decode cX11_allTests 6 = .ok (.getfield 180, 3) := by decide +kernel
theorem dX11_allTests_9 : decode cX11_allTests 9 = .ok (.invokevirtual 306, 3) := by decide +kernel
theorem dX11_allTests_12 : decode cX11_allTests 12 = .ok (.invokestatic 320, 3) := by decide +kernel
theorem dX11_allTests_15 : decode cX11_allTests 15 = .ok (.ireturn, 1) := by decide +kernel
theorem dX11_see_0 : decode cX11_see 0 = .ok (.aload_n 0, 1) := by decide +kernel
theorem dX11_see_1 : decode cX11_see 1 = .ok (.invokevirtual 204, 3) := by decide +kernel
theorem dX11_see_4 : decode cX11_see 4 = .ok (.ifCond .eq 29, 3) := by decide +kernel
theorem dX11_see_7 : decode cX11_see 7 = .ok (.aload_n 0, 1) := by decide +kernel
theorem dX11_see_8 : decode cX11_see 8 = .ok (.getfield 60, 3) := by decide +kernel
theorem dX11_see_11 : decode cX11_see 11 = .ok (.aload_n 0, 1) := by decide +kernel
theorem dX11_see_12 : decode cX11_see 12 = .ok (.getfield 14, 3) := by decide +kernel
theorem dX11_see_15 : decode cX11_see 15 = .ok (.aload_n 0, 1) := by decide +kernel
theorem dX11_see_16 : decode cX11_see 16 = .ok (.getfield 71, 3) := by decide +kernel
theorem dX11_see_19 : decode cX11_see 19 = .ok (.aload_n 0, 1) := by decide +kernel
theorem dX11_see_20 : decode cX11_see 20 = .ok (.getfield 43, 3) := by decide +kernel
theorem dX11_see_23 : decode cX11_see 23 = .ok (.invokevirtual 364, 3) := by decide +kernel
theorem dX11_see_26 : decode cX11_see 26 = .ok (.ifCond .eq 7, 3) := by decide +kernel
theorem dX11_see_29 : decode cX11_see 29 = .ok (.iconst 1, 1) := by decide +kernel
theorem dX11_see_30 : decode cX11_see 30 = .ok (.goto 4, 3) := by decide +kernel
theorem dX11_see_33 : decode cX11_see 33 = .ok (.iconst 0, 1) := by decide +kernel
theorem dX11_see_34 : decode cX11_see 34 = .ok (.istore_n 1, 1) := by decide +kernel
theorem dX11_see_35 : decode cX11_see 35 = .ok (.aload_n 0, 1) := by decide +kernel
theorem dX11_see_36 : decode cX11_see 36 = .ok (.getfield 14, 3) := by decide +kernel
theorem dX11_see_39 : decode cX11_see 39 = .ok (.iconst 0, 1) := by decide +kernel
theorem dX11_see_40 : decode cX11_see 40 = .ok (.putfield 100, 3) := by decide +kernel
theorem dX11_see_43 : decode cX11_see 43 = .ok (.iload_n 1, 1) := by decide +kernel
theorem dX11_see_44 : decode cX11_see 44 = .ok (.ifCond .ne 11, 3) := by decide +kernel
theorem dX11_see_47 : decode cX11_see 47 = .ok (.aload_n 0, 1) := by decide +kernel
theorem dX11_see_48 : decode cX11_see 48 = .ok (.iconst 5, 1) := by decide +kernel
theorem dX11_see_49 : decode cX11_see 49 = .ok (.invokevirtual 103, 3) := by decide +kernel
theorem dX11_see_52 : decode cX11_see 52 = .ok (.pop, 1) := by decide +kernel
theorem dX11_see_53 : decode cX11_see 53 = .ok (.iconst (-1), 1) := by decide +kernel
theorem dX11_see_54 : decode cX11_see 54 = .ok (.ireturn, 1) := by decide +kernel
theorem dX11_see_55 : decode cX11_see 55 = .ok (.aload_n 0, 1) := by decide +kernel
theorem dX11_see_56 : decode cX11_see 56 = .ok (.getfield 60, 3) := by decide +kernel
theorem dX11_see_59 : decode cX11_see 59 = .ok (.getfield 153, 3) := by decide +kernel
theorem dX11_see_62 : decode cX11_see 62 = .ok (.ireturn, 1) := by decide +kernel
theorem dX11_sets_0 : decode cX11_sets 0 = .ok (.aload_n 0, 1) := by decide +kernel
theorem dX11_sets_1 : decode cX11_sets 1 = .ok (.invokevirtual 204, 3) := by decide +kernel
theorem dX11_sets_4 : decode cX11_sets 4 = .ok (.ifCond .eq 8, 3) := by decide +kernel
theorem dX11_sets_7 : decode cX11_sets 7 = .ok (.iload_n 1, 1) := by decide +kernel
theorem dX11_sets_8 : decode cX11_sets 8 = .ok (.iconst (-1), 1) := by decide +kernel
theorem dX11_sets_9 : decode cX11_sets 9 = .ok (.if_icmp .ge 5, 3) := by decide +kernel
theorem dX11_sets_12 : decode cX11_sets 12 = .ok (.iconst (-1), 1) := by decide +kernel
theorem dX11_sets_13 : decode cX11_sets 13 = .ok (.ireturn, 1) := by decide +kernel
theorem dX11_sets_14 : decode cX11_sets 14 = .ok (.aload_n 0, 1) := by decide +kernel
theorem dX11_sets_15 : decode cX11_sets 15 = .ok (.getfield 60, 3) := by decide +kernel
theorem dX11_sets_18 : decode cX11_sets 18 = .ok (.aload_n 0, 1) := by decide +kernel
theorem dX11_sets_19 : decode cX11_sets 19 = .ok (.getfield 71, 3) := by decide +kernel
theorem dX11_sets_22 : decode cX11_sets 22 = .ok (.aload_n 0, 1) := by decide +kernel
theorem dX11_sets_23 : decode cX11_sets 23 = .ok (.getfield 43, 3) := by decide +kernel
theorem dX11_sets_26 : decode cX11_sets 26 = .ok (.invokevirtual 368, 3) := by decide +kernel
theorem dX11_sets_29 : decode cX11_sets 29 = .ok (.iload_n 1, 1) := by decide +kernel
theorem dX11_sets_30 : decode cX11_sets 30 = .ok (.iconst (-1), 1) := by decide +kernel
theorem dX11_sets_31 : decode cX11_sets 31 = .ok (.if_icmp .ne 11, 3) := by decide +kernel
theorem dX11_sets_34 : decode cX11_sets 34 = .ok (.aload_n 0, 1) := by decide +kernel
theorem dX11_sets_35 : decode cX11_sets 35 = .ok (.getfield 60, 3) := by decide +kernel
theorem dX11_sets_38 : decode cX11_sets 38 = .ok (.getfield 372, 3) := by decide +kernel
theorem dX11_sets_41 : decode cX11_sets 41 = .ok (.ireturn, 1) := by decide +kernel
theorem dX11_sets_42 : decode cX11_sets 42 = .ok (.iload_n 1, 1) := by decide +kernel
theorem dX11_sets_43 : decode cX11_sets 43 = .ok (.aload_n 0, 1) := by decide +kernel
theorem dX11_sets_44 : decode cX11_sets 44 = .ok (.getfield 60, 3) := by decide +kernel
theorem dX11_sets_47 : decode cX11_sets 47 = .ok (.getfield 372, 3) := by decide +kernel
theorem dX11_sets_50 : decode cX11_sets 50 = .ok (.if_icmp .ge 15, 3) := by decide +kernel
theorem dX11_sets_53 : decode cX11_sets 53 = .ok (.aload_n 0, 1) := by decide +kernel
theorem dX11_sets_54 : decode cX11_sets 54 = .ok (.getfield 60, 3) := by decide +kernel
theorem dX11_sets_57 : decode cX11_sets 57 = .ok (.getfield 375, 3) := by decide +kernel
theorem dX11_sets_60 : decode cX11_sets 60 = .ok (.iload_n 1, 1) := by decide +kernel
theorem dX11_sets_61 : decode cX11_sets 61 = .ok (.iaload, 1) := by decide +kernel
theorem dX11_sets_62 : decode cX11_sets 62 = .ok (.goto 4, 3) := by decide +kernel
theorem dX11_sets_65 : decode cX11_sets 65 = .ok (.iconst (-1), 1) := by decide +kernel
theorem dX11_sets_66 : decode cX11_sets 66 = .ok (.ireturn, 1) := by decide +kernel
theorem dX11_tells_0 : decode cX11_tells 0 = .ok (.aload_n 0, 1) := by decide +kernel
theorem dX11_tells_1 : decode cX11_tells 1 = .ok (.invokevirtual 204, 3) := by decide +kernel
theorem dX11_tells_4 : decode cX11_tells 4 = .ok (.ifCond .eq 12, 3) := by decide +kernel
theorem dX11_tells_7 : decode cX11_tells 7 = .ok (.iload_n 1, 1) := by decide +kernel
theorem dX11_tells_8 : decode cX11_tells 8 = .ok (.ifCond .lt 8, 3) := by decide +kernel
theorem dX11_tells_11 : decode cX11_tells 11 = .ok (.iload_n 1, 1) := by decide +kernel
theorem dX11_tells_12 : decode cX11_tells 12 = .ok (.iconst 1, 1) := by decide +kernel
theorem dX11_tells_13 : decode cX11_tells 13 = .ok (.if_icmp .le 5, 3) := by decide +kernel
theorem dX11_tells_16 : decode cX11_tells 16 = .ok (.iconst (-1), 1) := by decide +kernel
theorem dX11_tells_17 : decode cX11_tells 17 = .ok (.ireturn, 1) := by decide +kernel
theorem dX11_tells_18 : decode cX11_tells 18 = .ok (.aload_n 0, 1) := by decide +kernel
theorem dX11_tells_19 : decode cX11_tells 19 = .ok (.getfield 60, 3) := by decide +kernel
theorem dX11_tells_22 : decode cX11_tells 22 = .ok (.aload_n 0, 1) := by decide +kernel
theorem dX11_tells_23 : decode cX11_tells 23 = .ok (.getfield 71, 3) := by decide +kernel
theorem dX11_tells_26 : decode cX11_tells 26 = .ok (.aload_n 0, 1) := by decide +kernel
theorem dX11_tells_27 : decode cX11_tells 27 = .ok (.getfield 43, 3) := by decide +kernel
theorem dX11_tells_30 : decode cX11_tells 30 = .ok (.invokevirtual 368, 3) := by decide +kernel
theorem dX11_tells_33 : decode cX11_tells 33 = .ok (.aload_n 0, 1) := by decide +kernel
theorem dX11_tells_34 : decode cX11_tells 34 = .ok (.getfield 60, 3) := by decide +kernel
theorem dX11_tells_37 : decode cX11_tells 37 = .ok (.getfield 372, 3) := by decide +kernel
theorem dX11_tells_40 : decode cX11_tells 40 = .ok (.ifCond .ne 5, 3) := by decide +kernel
theorem dX11_tells_43 : decode cX11_tells 43 = .ok (.iconst (-1), 1) := by decide +kernel
theorem dX11_tells_44 : decode cX11_tells 44 = .ok (.ireturn, 1) := by decide +kernel
theorem dX11_tells_45 : decode cX11_tells 45 = .ok (.iconst (-1), 1) := by decide +kernel
theorem dX11_tells_46 : decode cX11_tells 46 = .ok (.istore_n 2, 1) := by decide +kernel
theorem dX11_tells_47 : decode cX11_tells 47 = .ok (.iconst 0, 1) := by decide +kernel
theorem dX11_tells_48 : decode cX11_tells 48 = .ok (.istore_n 3, 1) := by decide +kernel
theorem dX11_tells_49 : decode cX11_tells 49 = .ok (.aload_n 0, 1) := by decide +kernel
theorem dX11_tells_50 : decode cX11_tells 50 = .ok (.getfield 24, 3) := by decide +kernel
theorem dX11_tells_53 : decode cX11_tells 53 = .ok (.invokevirtual 378, 3) := by decide +kernel
theorem dX11_tells_56 : decode cX11_tells 56 = .ok (.iconst 0, 1) := by decide +kernel
theorem dX11_tells_57 : decode cX11_tells 57 = .ok (.istore 4, 2) := by decide +kernel
theorem dX11_tells_59 : decode cX11_tells 59 = .ok (.iload 4, 2) := by decide +kernel
theorem dX11_tells_61 : decode cX11_tells 61 = .ok (.sipush 1000, 3) := by decide +kernel
theorem dX11_tells_64 : decode cX11_tells 64 = .ok (.if_icmp .ge 80, 3) := by decide +kernel
theorem dX11_tells_67 : decode cX11_tells 67 = .ok (.iload 4, 2) := by decide +kernel
theorem dX11_tells_69 : decode cX11_tells 69 = .ok (.aload_n 0, 1) := by decide +kernel
theorem dX11_tells_70 : decode cX11_tells 70 = .ok (.getfield 71, 3) := by decide +kernel
theorem dX11_tells_73 : decode cX11_tells 73 = .ok (.getfield 173, 3) := by decide +kernel
theorem dX11_tells_76 : decode cX11_tells 76 = .ok (.if_icmp .ge 68, 3) := by decide +kernel
theorem dX11_tells_79 : decode cX11_tells 79 = .ok (.aload_n 0, 1) := by decide +kernel
theorem dX11_tells_80 : decode cX11_tells 80 = .ok (.getfield 71, 3) := by decide +kernel
theorem dX11_tells_83 : decode cX11_tells 83 = .ok (.iload 4, 2) := by decide +kernel
theorem dX11_tells_85 : decode cX11_tells 85 = .ok (.invokevirtual 255, 3) := by decide +kernel
theorem dX11_tells_88 : decode cX11_tells 88 = .ok (.istore 5, 2) := by decide +kernel
theorem dX11_tells_90 : decode cX11_tells 90 = .ok (.aload_n 0, 1) := by decide +kernel
theorem dX11_tells_91 : decode cX11_tells 91 = .ok (.getfield 24, 3) := by decide +kernel
theorem dX11_tells_94 : decode cX11_tells 94 = .ok (.iload 5, 2) := by decide +kernel
theorem dX11_tells_96 : decode cX11_tells 96 = .ok (.invokevirtual 381, 3) := by decide +kernel
theorem dX11_tells_99 : decode cX11_tells 99 = .ok (.ifCond .eq 39, 3) := by decide +kernel
theorem dX11_tells_102 : decode cX11_tells 102 = .ok (.aload_n 0, 1) := by decide +kernel
theorem dX11_tells_103 : decode cX11_tells 103 = .ok (.getfield 60, 3) := by decide +kernel
theorem dX11_tells_106 : decode cX11_tells 106 = .ok (.aload_n 0, 1) := by decide +kernel
theorem dX11_tells_107 : decode cX11_tells 107 = .ok (.getfield 71, 3) := by decide +kernel
theorem dX11_tells_110 : decode cX11_tells 110 = .ok (.aload_n 0, 1) := by decide +kernel
theorem dX11_tells_111 : decode cX11_tells 111 = .ok (.getfield 43, 3) := by decide +kernel
theorem dX11_tells_114 : decode cX11_tells 114 = .ok (.iload 5, 2) := by decide +kernel
theorem dX11_tells_116 : decode cX11_tells 116 = .ok (.invokevirtual 384, 3) := by decide +kernel
theorem dX11_tells_119 : decode cX11_tells 119 = .ok (.istore 6, 2) := by decide +kernel
theorem dX11_tells_121 : decode cX11_tells 121 = .ok (.iload_n 2, 1) := by decide +kernel
theorem dX11_tells_122 : decode cX11_tells 122 = .ok (.iconst (-1), 1) := by decide +kernel
theorem dX11_tells_123 : decode cX11_tells 123 = .ok (.if_icmp .eq 9, 3) := by decide +kernel
theorem dX11_tells_126 : decode cX11_tells 126 = .ok (.iload 6, 2) := by decide +kernel
theorem dX11_tells_128 : decode cX11_tells 128 = .ok (.iload_n 3, 1) := by decide +kernel
theorem dX11_tells_129 : decode cX11_tells 129 = .ok (.if_icmp .ge 9, 3) := by decide +kernel
theorem dX11_tells_132 : decode cX11_tells 132 = .ok (.iload 4, 2) := by decide +kernel
theorem dX11_tells_134 : decode cX11_tells 134 = .ok (.istore_n 2, 1) := by decide +kernel
theorem dX11_tells_135 : decode cX11_tells 135 = .ok (.iload 6, 2) := by decide +kernel
theorem dX11_tells_137 : decode cX11_tells 137 = .ok (.istore_n 3, 1) := by decide +kernel
theorem dX11_tells_138 : decode cX11_tells 138 = .ok (.iinc 4 1, 3) := by decide +kernel
theorem dX11_tells_141 : decode cX11_tells 141 = .ok (.goto (-82), 3) := by decide +kernel
theorem dX11_tells_144 : decode cX11_tells 144 = .ok (.iload_n 1, 1) := by decide +kernel
theorem dX11_tells_145 : decode cX11_tells 145 = .ok (.ifCond .ne 7, 3) := by decide +kernel
theorem dX11_tells_148 : decode cX11_tells 148 = .ok (.iload_n 2, 1) := by decide +kernel
theorem dX11_tells_149 : decode cX11_tells 149 = .ok (.goto 4, 3) := by decide +kernel
theorem dX11_tells_152 : decode cX11_tells 152 = .ok (.iload_n 3, 1) := by decide +kernel
theorem dX11_tells_153 : decode cX11_tells 153 = .ok (.ireturn, 1) := by decide +kernel
theorem dX11_run_0 : decode cX11_run 0 = .ok (.aload_n 0, 1) := by decide +kernel
theorem dX11_run_1 : decode cX11_run 1 = .ok (.getfield 71, 3) := by decide +kernel
theorem dX11_run_4 : decode cX11_run 4 = .ok (.iload_n 1, 1) := by decide +kernel
theorem dX11_run_5 : decode cX11_run 5 = .ok (.invokevirtual 258, 3) := by decide +kernel
theorem dX11_run_8 : decode cX11_run 8 = .ok (.ifCond .ne 11, 3) := by decide +kernel
theorem dX11_run_11 : decode cX11_run 11 = .ok (.aload_n 0, 1) := by decide +kernel
theorem dX11_run_12 : decode cX11_run 12 = .ok (.iconst 2, 1) := by decide +kernel
theorem dX11_run_13 : decode cX11_run 13 = .ok (.invokevirtual 103, 3) := by decide +kernel
theorem dX11_run_16 : decode cX11_run 16 = .ok (.pop, 1) := by decide +kernel
theorem dX11_run_17 : decode cX11_run 17 = .ok (.iconst (-1), 1) := by decide +kernel
theorem dX11_run_18 : decode cX11_run 18 = .ok (.ireturn, 1) := by decide +kernel
theorem dX11_run_19 : decode cX11_run 19 = .ok (.aload_n 0, 1) := by decide +kernel
theorem dX11_run_20 : decode cX11_run 20 = .ok (.invokevirtual 388, 3) := by decide +kernel
theorem dX11_run_23 : decode cX11_run 23 = .ok (.aload_n 0, 1) := by decide +kernel
theorem dX11_run_24 : decode cX11_run 24 = .ok (.iload_n 1, 1) := by decide +kernel
theorem dX11_run_25 : decode cX11_run 25 = .ok (.invokevirtual 391, 3) := by decide +kernel
theorem dX11_run_28 : decode cX11_run 28 = .ok (.ireturn, 1) := by decide +kernel
theorem dX11_runRow_0 : decode cX11_runRow 0 = .ok (.aload_n 0, 1) := by decide +kernel
theorem dX11_runRow_1 : decode cX11_runRow 1 = .ok (.getfield 43, 3) := by decide +kernel
theorem dX11_runRow_4 : decode cX11_runRow 4 = .ok (.aload_n 0, 1) := by decide +kernel
theorem dX11_runRow_5 : decode cX11_runRow 5 = .ok (.getfield 71, 3) := by decide +kernel
theorem dX11_runRow_8 : decode cX11_runRow 8 = .ok (.aload_n 0, 1) := by decide +kernel
theorem dX11_runRow_9 : decode cX11_runRow 9 = .ok (.getfield 71, 3) := by decide +kernel
theorem dX11_runRow_12 : decode cX11_runRow 12 = .ok (.iload_n 1, 1) := by decide +kernel
theorem dX11_runRow_13 : decode cX11_runRow 13 = .ok (.invokevirtual 255, 3) := by decide +kernel
theorem dX11_runRow_16 : decode cX11_runRow 16 = .ok (.aload_n 0, 1) := by decide +kernel
theorem dX11_runRow_17 : decode cX11_runRow 17 = .ok (.getfield 43, 3) := by decide +kernel
theorem dX11_runRow_20 : decode cX11_runRow 20 = .ok (.getfield 177, 3) := by decide +kernel
theorem dX11_runRow_23 : decode cX11_runRow 23 = .ok (.invokevirtual 241, 3) := by decide +kernel
theorem dX11_runRow_26 : decode cX11_runRow 26 = .ok (.istore_n 2, 1) := by decide +kernel
theorem dX11_runRow_27 : decode cX11_runRow 27 = .ok (.aload_n 0, 1) := by decide +kernel
theorem dX11_runRow_28 : decode cX11_runRow 28 = .ok (.getfield 53, 3) := by decide +kernel
theorem dX11_runRow_31 : decode cX11_runRow 31 = .ok (.iload_n 1, 1) := by decide +kernel
theorem dX11_runRow_32 : decode cX11_runRow 32 = .ok (.aload_n 0, 1) := by decide +kernel
theorem dX11_runRow_33 : decode cX11_runRow 33 = .ok (.getfield 43, 3) := by decide +kernel
theorem dX11_runRow_36 : decode cX11_runRow 36 = .ok (.iload_n 2, 1) := by decide +kernel
theorem dX11_runRow_37 : decode cX11_runRow 37 = .ok (.invokevirtual 212, 3) := by decide +kernel
theorem dX11_runRow_40 : decode cX11_runRow 40 = .ok (.aload_n 0, 1) := by decide +kernel
theorem dX11_runRow_41 : decode cX11_runRow 41 = .ok (.getfield 92, 3) := by decide +kernel
theorem dX11_runRow_44 : decode cX11_runRow 44 = .ok (.aload_n 0, 1) := by decide +kernel
theorem dX11_runRow_45 : decode cX11_runRow 45 = .ok (.getfield 43, 3) := by decide +kernel
theorem dX11_runRow_48 : decode cX11_runRow 48 = .ok (.iload_n 1, 1) := by decide +kernel
theorem dX11_runRow_49 : decode cX11_runRow 49 = .ok (.invokevirtual 394, 3) := by decide +kernel
theorem dX11_runRow_52 : decode cX11_runRow 52 = .ok (.invokevirtual 397, 3) := by decide +kernel
theorem dX11_runRow_55 : decode cX11_runRow 55 = .ok (.iload_n 2, 1) := by decide +kernel
theorem dX11_runRow_56 : decode cX11_runRow 56 = .ok (.ireturn, 1) := by decide +kernel
theorem dX11_chance_0 : decode cX11_chance 0 = .ok (.aload_n 0, 1) := by decide +kernel
theorem dX11_chance_1 : decode cX11_chance 1 = .ok (.invokevirtual 204, 3) := by decide +kernel
theorem dX11_chance_4 : decode cX11_chance 4 = .ok (.ifCond .eq 14, 3) := by decide +kernel
theorem dX11_chance_7 : decode cX11_chance 7 = .ok (.iload_n 1, 1) := by decide +kernel
theorem dX11_chance_8 : decode cX11_chance 8 = .ok (.iconst 1, 1) := by decide +kernel
theorem dX11_chance_9 : decode cX11_chance 9 = .ok (.if_icmp .lt 9, 3) := by decide +kernel
theorem dX11_chance_12 : decode cX11_chance 12 = .ok (.iload_n 1, 1) := by decide +kernel
theorem dX11_chance_13 : decode cX11_chance 13 = .ok (.bipush 40, 2) := by decide +kernel
theorem dX11_chance_15 : decode cX11_chance 15 = .ok (.if_icmp .le 11, 3) := by decide +kernel
theorem dX11_chance_18 : decode cX11_chance 18 = .ok (.aload_n 0, 1) := by decide +kernel
theorem dX11_chance_19 : decode cX11_chance 19 = .ok (.iconst 2, 1) := by decide +kernel
theorem dX11_chance_20 : decode cX11_chance 20 = .ok (.invokevirtual 103, 3) := by decide +kernel
theorem dX11_chance_23 : decode cX11_chance 23 = .ok (.pop, 1) := by decide +kernel
theorem dX11_chance_24 : decode cX11_chance 24 = .ok (.iconst (-1), 1) := by decide +kernel
theorem dX11_chance_25 : decode cX11_chance 25 = .ok (.ireturn, 1) := by decide +kernel
theorem dX11_chance_26 : decode cX11_chance 26 = .ok (.aload_n 0, 1) := by decide +kernel
theorem dX11_chance_27 : decode cX11_chance 27 = .ok (.invokevirtual 388, 3) := by decide +kernel
theorem dX11_chance_30 : decode cX11_chance 30 = .ok (.iconst 0, 1) := by decide +kernel
theorem dX11_chance_31 : decode cX11_chance 31 = .ok (.istore_n 2, 1) := by decide +kernel
theorem dX11_chance_32 : decode cX11_chance 32 = .ok (.iconst 0, 1) := by decide +kernel
theorem dX11_chance_33 : decode cX11_chance 33 = .ok (.istore_n 3, 1) := by decide +kernel
theorem dX11_chance_34 : decode cX11_chance 34 = .ok (.iload_n 3, 1) := by decide +kernel
theorem dX11_chance_35 : decode cX11_chance 35 = .ok (.iload_n 1, 1) := by decide +kernel
theorem dX11_chance_36 : decode cX11_chance 36 = .ok (.if_icmp .ge 31, 3) := by decide +kernel
theorem dX11_chance_39 : decode cX11_chance 39 = .ok (.aload_n 0, 1) := by decide +kernel
theorem dX11_chance_40 : decode cX11_chance 40 = .ok (.aload_n 0, 1) := by decide +kernel
theorem dX11_chance_41 : decode cX11_chance 41 = .ok (.aload_n 0, 1) := by decide +kernel
theorem dX11_chance_42 : decode cX11_chance 42 = .ok (.getfield 71, 3) := by decide +kernel
theorem dX11_chance_45 : decode cX11_chance 45 = .ok (.getfield 173, 3) := by decide +kernel
theorem dX11_chance_48 : decode cX11_chance 48 = .ok (.invokevirtual 401, 3) := by decide +kernel
theorem dX11_chance_51 : decode cX11_chance 51 = .ok (.invokevirtual 391, 3) := by decide +kernel
theorem dX11_chance_54 : decode cX11_chance 54 = .ok (.iconst (-1), 1) := by decide +kernel
theorem dX11_chance_55 : decode cX11_chance 55 = .ok (.if_icmp .ne 6, 3) := by decide +kernel
theorem dX11_chance_58 : decode cX11_chance 58 = .ok (.iinc 2 1, 3) := by decide +kernel
theorem dX11_chance_61 : decode cX11_chance 61 = .ok (.iinc 3 1, 3) := by decide +kernel
theorem dX11_chance_64 : decode cX11_chance 64 = .ok (.goto (-30), 3) := by decide +kernel
theorem dX11_chance_67 : decode cX11_chance 67 = .ok (.iload_n 2, 1) := by decide +kernel
theorem dX11_chance_68 : decode cX11_chance 68 = .ok (.ireturn, 1) := by decide +kernel
theorem dX11_draw_0 : decode cX11_draw 0 = .ok (.aload_n 0, 1) := by decide +kernel
theorem dX11_draw_1 : decode cX11_draw 1 = .ok (.ldc_w 404, 3) := by decide +kernel
theorem dX11_draw_4 : decode cX11_draw 4 = .ok (.aload_n 0, 1) := by decide +kernel
theorem dX11_draw_5 : decode cX11_draw 5 = .ok (.getfield 96, 3) := by decide +kernel
theorem dX11_draw_8 : decode cX11_draw 8 = .ok (.imul, 1) := by decide +kernel
theorem dX11_draw_9 : decode cX11_draw 9 = .ok (.sipush 12345, 3) := by decide +kernel
theorem dX11_draw_12 : decode cX11_draw 12 = .ok (.iadd, 1) := by decide +kernel
theorem dX11_draw_13 : decode cX11_draw 13 = .ok (.ldc_w 405, 3) := by decide +kernel
theorem dX11_draw_16 : decode cX11_draw 16 = .ok (.iand, 1) := by decide +kernel
theorem dX11_draw_17 : decode cX11_draw 17 = .ok (.putfield 96, 3) := by decide +kernel
theorem dX11_draw_20 : decode cX11_draw 20 = .ok (.iload_n 1, 1) := by decide +kernel
theorem dX11_draw_21 : decode cX11_draw 21 = .ok (.ifCond .le 15, 3) := by decide +kernel
theorem dX11_draw_24 : decode cX11_draw 24 = .ok (.aload_n 0, 1) := by decide +kernel
theorem dX11_draw_25 : decode cX11_draw 25 = .ok (.getfield 96, 3) := by decide +kernel
theorem dX11_draw_28 : decode cX11_draw 28 = .ok (.bipush 6, 2) := by decide +kernel
theorem dX11_draw_30 : decode cX11_draw 30 = .ok (.ishr, 1) := by decide +kernel
theorem dX11_draw_31 : decode cX11_draw 31 = .ok (.iload_n 1, 1) := by decide +kernel
theorem dX11_draw_32 : decode cX11_draw 32 = .ok (.irem, 1) := by decide +kernel
theorem dX11_draw_33 : decode cX11_draw 33 = .ok (.goto 4, 3) := by decide +kernel
theorem dX11_draw_36 : decode cX11_draw 36 = .ok (.iconst 0, 1) := by decide +kernel
theorem dX11_draw_37 : decode cX11_draw 37 = .ok (.ireturn, 1) := by decide +kernel
theorem dX11_swap_0 : decode cX11_swap 0 = .ok (.iload_n 1, 1) := by decide +kernel
theorem dX11_swap_1 : decode cX11_swap 1 = .ok (.iload_n 2, 1) := by decide +kernel
theorem dX11_swap_2 : decode cX11_swap 2 = .ok (.if_icmp .eq 25, 3) := by decide +kernel
theorem dX11_swap_5 : decode cX11_swap 5 = .ok (.aload_n 0, 1) := by decide +kernel
theorem dX11_swap_6 : decode cX11_swap 6 = .ok (.getfield 43, 3) := by decide +kernel
theorem dX11_swap_9 : decode cX11_swap 9 = .ok (.iload_n 1, 1) := by decide +kernel
theorem dX11_swap_10 : decode cX11_swap 10 = .ok (.invokevirtual 344, 3) := by decide +kernel
theorem dX11_swap_13 : decode cX11_swap 13 = .ok (.ifCond .eq 14, 3) := by decide +kernel
theorem dX11_swap_16 : decode cX11_swap 16 = .ok (.aload_n 0, 1) := by decide +kernel
theorem dX11_swap_17 : decode cX11_swap 17 = .ok (.getfield 43, 3) := by decide +kernel
theorem dX11_swap_20 : decode cX11_swap 20 = .ok (.iload_n 2, 1) := by decide +kernel
theorem dX11_swap_21 : decode cX11_swap 21 = .ok (.invokevirtual 344, 3) := by decide +kernel
theorem dX11_swap_24 : decode cX11_swap 24 = .ok (.ifCond .ne 9, 3) := by decide +kernel
theorem dX11_swap_27 : decode cX11_swap 27 = .ok (.aload_n 0, 1) := by decide +kernel
theorem dX11_swap_28 : decode cX11_swap 28 = .ok (.iconst 3, 1) := by decide +kernel
theorem dX11_swap_29 : decode cX11_swap 29 = .ok (.invokevirtual 103, 3) := by decide +kernel
theorem dX11_swap_32 : decode cX11_swap 32 = .ok (.ireturn, 1) := by decide +kernel
theorem dX11_swap_33 : decode cX11_swap 33 = .ok (.aload_n 0, 1) := by decide +kernel
theorem dX11_swap_34 : decode cX11_swap 34 = .ok (.invokevirtual 388, 3) := by decide +kernel
theorem dX11_swap_37 : decode cX11_swap 37 = .ok (.aload_n 0, 1) := by decide +kernel
theorem dX11_swap_38 : decode cX11_swap 38 = .ok (.getfield 43, 3) := by decide +kernel
theorem dX11_swap_41 : decode cX11_swap 41 = .ok (.iload_n 1, 1) := by decide +kernel
theorem dX11_swap_42 : decode cX11_swap 42 = .ok (.iload_n 2, 1) := by decide +kernel
theorem dX11_swap_43 : decode cX11_swap 43 = .ok (.invokevirtual 350, 3) := by decide +kernel
theorem dX11_swap_46 : decode cX11_swap 46 = .ok (.iconst 1, 1) := by decide +kernel
theorem dX11_swap_47 : decode cX11_swap 47 = .ok (.ireturn, 1) := by decide +kernel
theorem dX11_drop_0 : decode cX11_drop 0 = .ok (.aload_n 0, 1) := by decide +kernel
theorem dX11_drop_1 : decode cX11_drop 1 = .ok (.getfield 43, 3) := by decide +kernel
theorem dX11_drop_4 : decode cX11_drop 4 = .ok (.iload_n 1, 1) := by decide +kernel
theorem dX11_drop_5 : decode cX11_drop 5 = .ok (.invokevirtual 344, 3) := by decide +kernel
theorem dX11_drop_8 : decode cX11_drop 8 = .ok (.ifCond .ne 9, 3) := by decide +kernel
end
section
theorem dX11_drop_11 : decode cX11_drop 11 = .ok (.aload_n 0, 1) := by decide +kernel
theorem dX11_drop_12 : decode cX11_drop 12 = .ok (.iconst 3, 1) := by decide +kernel
theorem dX11_drop_13 : decode cX11_drop 13 = .ok (.invokevirtual 103, 3) := by decide +kernel
theorem dX11_drop_16 : decode cX11_drop 16 = .ok (.ireturn, 1) := by decide +kernel
theorem dX11_drop_17 : decode cX11_drop 17 = .ok (.aload_n 0, 1) := by decide +kernel
theorem dX11_drop_18 : decode cX11_drop 18 = .ok (.invokevirtual 388, 3) := by decide +kernel
theorem dX11_drop_21 : decode cX11_drop 21 = .ok (.aload_n 0, 1) := by decide +kernel
theorem dX11_drop_22 : decode cX11_drop 22 = .ok (.getfield 43, 3) := by decide +kernel
theorem dX11_drop_25 : decode cX11_drop 25 = .ok (.iload_n 1, 1) := by decide +kernel
theorem dX11_drop_26 : decode cX11_drop 26 = .ok (.invokevirtual 406, 3) := by decide +kernel
theorem dX11_drop_29 : decode cX11_drop 29 = .ok (.iconst 1, 1) := by decide +kernel
theorem dX11_drop_30 : decode cX11_drop 30 = .ok (.ireturn, 1) := by decide +kernel
theorem dX11_turn_0 : decode cX11_turn 0 = .ok (.aload_n 0, 1) := by decide +kernel
theorem dX11_turn_1 : decode cX11_turn 1 = .ok (.invokevirtual 204, 3) := by decide +kernel
theorem dX11_turn_4 : decode cX11_turn 4 = .ok (.ifCond .eq 13, 3) := by decide +kernel
theorem dX11_turn_7 : decode cX11_turn 7 = .ok (.iload_n 1, 1) := by decide +kernel
theorem dX11_turn_8 : decode cX11_turn 8 = .ok (.ifCond .lt 9, 3) := by decide +kernel
theorem dX11_turn_11 : decode cX11_turn 11 = .ok (.iload_n 1, 1) := by decide +kernel
theorem dX11_turn_12 : decode cX11_turn 12 = .ok (.bipush 8, 2) := by decide +kernel
theorem dX11_turn_14 : decode cX11_turn 14 = .ok (.if_icmp .lt 11, 3) := by decide +kernel
theorem dX11_turn_17 : decode cX11_turn 17 = .ok (.aload_n 0, 1) := by decide +kernel
theorem dX11_turn_18 : decode cX11_turn 18 = .ok (.iconst 3, 1) := by decide +kernel
theorem dX11_turn_19 : decode cX11_turn 19 = .ok (.invokevirtual 103, 3) := by decide +kernel
theorem dX11_turn_22 : decode cX11_turn 22 = .ok (.pop, 1) := by decide +kernel
theorem dX11_turn_23 : decode cX11_turn 23 = .ok (.iconst (-1), 1) := by decide +kernel
theorem dX11_turn_24 : decode cX11_turn 24 = .ok (.ireturn, 1) := by decide +kernel
theorem dX11_turn_25 : decode cX11_turn 25 = .ok (.aload_n 0, 1) := by decide +kernel
theorem dX11_turn_26 : decode cX11_turn 26 = .ok (.invokevirtual 388, 3) := by decide +kernel
theorem dX11_turn_29 : decode cX11_turn 29 = .ok (.aload_n 0, 1) := by decide +kernel
theorem dX11_turn_30 : decode cX11_turn 30 = .ok (.getfield 43, 3) := by decide +kernel
theorem dX11_turn_33 : decode cX11_turn 33 = .ok (.dup, 1) := by decide +kernel
theorem dX11_turn_34 : decode cX11_turn 34 = .ok (.getfield 177, 3) := by decide +kernel
theorem dX11_turn_37 : decode cX11_turn 37 = .ok (.iconst 1, 1) := by decide +kernel
theorem dX11_turn_38 : decode cX11_turn 38 = .ok (.iload_n 1, 1) := by decide +kernel
theorem dX11_turn_39 : decode cX11_turn 39 = .ok (.ishl, 1) := by decide +kernel
theorem dX11_turn_40 : decode cX11_turn 40 = .ok (.ixor, 1) := by decide +kernel
theorem dX11_turn_41 : decode cX11_turn 41 = .ok (.putfield 177, 3) := by decide +kernel
theorem dX11_turn_44 : decode cX11_turn 44 = .ok (.aload_n 0, 1) := by decide +kernel
theorem dX11_turn_45 : decode cX11_turn 45 = .ok (.getfield 43, 3) := by decide +kernel
theorem dX11_turn_48 : decode cX11_turn 48 = .ok (.getfield 177, 3) := by decide +kernel
theorem dX11_turn_51 : decode cX11_turn 51 = .ok (.iload_n 1, 1) := by decide +kernel
theorem dX11_turn_52 : decode cX11_turn 52 = .ok (.invokestatic 234, 3) := by decide +kernel
theorem dX11_turn_55 : decode cX11_turn 55 = .ok (.ifCond .eq 7, 3) := by decide +kernel
theorem dX11_turn_58 : decode cX11_turn 58 = .ok (.iconst 1, 1) := by decide +kernel
theorem dX11_turn_59 : decode cX11_turn 59 = .ok (.goto 4, 3) := by decide +kernel
theorem dX11_turn_62 : decode cX11_turn 62 = .ok (.iconst 0, 1) := by decide +kernel
theorem dX11_turn_63 : decode cX11_turn 63 = .ok (.ireturn, 1) := by decide +kernel
theorem dX11_choose_0 : decode cX11_choose 0 = .ok (.aload_n 0, 1) := by decide +kernel
theorem dX11_choose_1 : decode cX11_choose 1 = .ok (.invokevirtual 204, 3) := by decide +kernel
theorem dX11_choose_4 : decode cX11_choose 4 = .ok (.ifCond .eq 21, 3) := by decide +kernel
theorem dX11_choose_7 : decode cX11_choose 7 = .ok (.iload_n 1, 1) := by decide +kernel
theorem dX11_choose_8 : decode cX11_choose 8 = .ok (.invokestatic 303, 3) := by decide +kernel
theorem dX11_choose_11 : decode cX11_choose 11 = .ok (.ifCond .eq 14, 3) := by decide +kernel
theorem dX11_choose_14 : decode cX11_choose 14 = .ok (.iload_n 1, 1) := by decide +kernel
theorem dX11_choose_15 : decode cX11_choose 15 = .ok (.aload_n 0, 1) := by decide +kernel
theorem dX11_choose_16 : decode cX11_choose 16 = .ok (.getfield 43, 3) := by decide +kernel
theorem dX11_choose_19 : decode cX11_choose 19 = .ok (.getfield 180, 3) := by decide +kernel
theorem dX11_choose_22 : decode cX11_choose 22 = .ok (.if_icmp .ne 9, 3) := by decide +kernel
theorem dX11_choose_25 : decode cX11_choose 25 = .ok (.aload_n 0, 1) := by decide +kernel
theorem dX11_choose_26 : decode cX11_choose 26 = .ok (.iconst 3, 1) := by decide +kernel
theorem dX11_choose_27 : decode cX11_choose 27 = .ok (.invokevirtual 103, 3) := by decide +kernel
theorem dX11_choose_30 : decode cX11_choose 30 = .ok (.ireturn, 1) := by decide +kernel
theorem dX11_choose_31 : decode cX11_choose 31 = .ok (.aload_n 0, 1) := by decide +kernel
theorem dX11_choose_32 : decode cX11_choose 32 = .ok (.invokevirtual 388, 3) := by decide +kernel
theorem dX11_choose_35 : decode cX11_choose 35 = .ok (.aload_n 0, 1) := by decide +kernel
theorem dX11_choose_36 : decode cX11_choose 36 = .ok (.getfield 43, 3) := by decide +kernel
theorem dX11_choose_39 : decode cX11_choose 39 = .ok (.iload_n 1, 1) := by decide +kernel
theorem dX11_choose_40 : decode cX11_choose 40 = .ok (.putfield 180, 3) := by decide +kernel
theorem dX11_choose_43 : decode cX11_choose 43 = .ok (.iconst 1, 1) := by decide +kernel
theorem dX11_choose_44 : decode cX11_choose 44 = .ok (.ireturn, 1) := by decide +kernel
theorem dX11_undo_0 : decode cX11_undo 0 = .ok (.aload_n 0, 1) := by decide +kernel
theorem dX11_undo_1 : decode cX11_undo 1 = .ok (.getfield 53, 3) := by decide +kernel
theorem dX11_undo_4 : decode cX11_undo 4 = .ok (.getfield 185, 3) := by decide +kernel
theorem dX11_undo_7 : decode cX11_undo 7 = .ok (.ifCond .ne 9, 3) := by decide +kernel
theorem dX11_undo_10 : decode cX11_undo 10 = .ok (.aload_n 0, 1) := by decide +kernel
theorem dX11_undo_11 : decode cX11_undo 11 = .ok (.iconst 4, 1) := by decide +kernel
theorem dX11_undo_12 : decode cX11_undo 12 = .ok (.invokevirtual 103, 3) := by decide +kernel
theorem dX11_undo_15 : decode cX11_undo 15 = .ok (.ireturn, 1) := by decide +kernel
theorem dX11_undo_16 : decode cX11_undo 16 = .ok (.aload_n 0, 1) := by decide +kernel
theorem dX11_undo_17 : decode cX11_undo 17 = .ok (.getfield 53, 3) := by decide +kernel
theorem dX11_undo_20 : decode cX11_undo 20 = .ok (.aload_n 0, 1) := by decide +kernel
theorem dX11_undo_21 : decode cX11_undo 21 = .ok (.getfield 43, 3) := by decide +kernel
theorem dX11_undo_24 : decode cX11_undo 24 = .ok (.invokevirtual 409, 3) := by decide +kernel
theorem dX11_undo_27 : decode cX11_undo 27 = .ok (.iconst 1, 1) := by decide +kernel
theorem dX11_undo_28 : decode cX11_undo 28 = .ok (.ireturn, 1) := by decide +kernel
theorem dX11_remember_0 : decode cX11_remember 0 = .ok (.aload_n 0, 1) := by decide +kernel
theorem dX11_remember_1 : decode cX11_remember 1 = .ok (.getfield 53, 3) := by decide +kernel
theorem dX11_remember_4 : decode cX11_remember 4 = .ok (.aload_n 0, 1) := by decide +kernel
theorem dX11_remember_5 : decode cX11_remember 5 = .ok (.getfield 43, 3) := by decide +kernel
theorem dX11_remember_8 : decode cX11_remember 8 = .ok (.invokevirtual 412, 3) := by decide +kernel
theorem dX11_remember_11 : decode cX11_remember 11 = .ok (.return_, 1) := by decide +kernel
theorem dX11_seed_0 : decode cX11_seed 0 = .ok (.iload_n 1, 1) := by decide +kernel
theorem dX11_seed_1 : decode cX11_seed 1 = .ok (.ifCond .ge 9, 3) := by decide +kernel
theorem dX11_seed_4 : decode cX11_seed 4 = .ok (.aload_n 0, 1) := by decide +kernel
theorem dX11_seed_5 : decode cX11_seed 5 = .ok (.iconst 5, 1) := by decide +kernel
theorem dX11_seed_6 : decode cX11_seed 6 = .ok (.invokevirtual 103, 3) := by decide +kernel
theorem dX11_seed_9 : decode cX11_seed 9 = .ok (.ireturn, 1) := by decide +kernel
theorem dX11_seed_10 : decode cX11_seed 10 = .ok (.aload_n 0, 1) := by decide +kernel
theorem dX11_seed_11 : decode cX11_seed 11 = .ok (.iload_n 1, 1) := by decide +kernel
theorem dX11_seed_12 : decode cX11_seed 12 = .ok (.putfield 96, 3) := by decide +kernel
theorem dX11_seed_15 : decode cX11_seed 15 = .ok (.iconst 1, 1) := by decide +kernel
theorem dX11_seed_16 : decode cX11_seed 16 = .ok (.ireturn, 1) := by decide +kernel
theorem dX11_kept_0 : decode cX11_kept 0 = .ok (.aload_n 0, 1) := by decide +kernel
theorem dX11_kept_1 : decode cX11_kept 1 = .ok (.getfield 53, 3) := by decide +kernel
theorem dX11_kept_4 : decode cX11_kept 4 = .ok (.iload_n 1, 1) := by decide +kernel
theorem dX11_kept_5 : decode cX11_kept 5 = .ok (.iload_n 2, 1) := by decide +kernel
theorem dX11_kept_6 : decode cX11_kept 6 = .ok (.invokevirtual 414, 3) := by decide +kernel
theorem dX11_kept_9 : decode cX11_kept 9 = .ok (.ireturn, 1) := by decide +kernel
theorem dX11_image_0 : decode cX11_image 0 = .ok (.aload_n 0, 1) := by decide +kernel
theorem dX11_image_1 : decode cX11_image 1 = .ok (.getfield 18, 3) := by decide +kernel
theorem dX11_image_4 : decode cX11_image 4 = .ok (.iconst 0, 1) := by decide +kernel
theorem dX11_image_5 : decode cX11_image 5 = .ok (.putfield 100, 3) := by decide +kernel
theorem dX11_image_8 : decode cX11_image 8 = .ok (.aload_n 0, 1) := by decide +kernel
theorem dX11_image_9 : decode cX11_image 9 = .ok (.getfield 18, 3) := by decide +kernel
theorem dX11_image_12 : decode cX11_image 12 = .ok (.aload_n 0, 1) := by decide +kernel
theorem dX11_image_13 : decode cX11_image 13 = .ok (.getfield 43, 3) := by decide +kernel
theorem dX11_image_16 : decode cX11_image 16 = .ok (.getfield 176, 3) := by decide +kernel
theorem dX11_image_19 : decode cX11_image 19 = .ok (.invokevirtual 264, 3) := by decide +kernel
theorem dX11_image_22 : decode cX11_image 22 = .ok (.iconst 0, 1) := by decide +kernel
theorem dX11_image_23 : decode cX11_image 23 = .ok (.istore_n 1, 1) := by decide +kernel
theorem dX11_image_24 : decode cX11_image 24 = .ok (.iload_n 1, 1) := by decide +kernel
theorem dX11_image_25 : decode cX11_image 25 = .ok (.aload_n 0, 1) := by decide +kernel
theorem dX11_image_26 : decode cX11_image 26 = .ok (.getfield 43, 3) := by decide +kernel
theorem dX11_image_29 : decode cX11_image 29 = .ok (.getfield 176, 3) := by decide +kernel
theorem dX11_image_32 : decode cX11_image 32 = .ok (.if_icmp .ge 25, 3) := by decide +kernel
theorem dX11_image_35 : decode cX11_image 35 = .ok (.aload_n 0, 1) := by decide +kernel
theorem dX11_image_36 : decode cX11_image 36 = .ok (.getfield 18, 3) := by decide +kernel
theorem dX11_image_39 : decode cX11_image 39 = .ok (.aload_n 0, 1) := by decide +kernel
theorem dX11_image_40 : decode cX11_image 40 = .ok (.getfield 43, 3) := by decide +kernel
theorem dX11_image_43 : decode cX11_image 43 = .ok (.getfield 417, 3) := by decide +kernel
theorem dX11_image_46 : decode cX11_image 46 = .ok (.iload_n 1, 1) := by decide +kernel
theorem dX11_image_47 : decode cX11_image 47 = .ok (.iaload, 1) := by decide +kernel
theorem dX11_image_48 : decode cX11_image 48 = .ok (.invokevirtual 264, 3) := by decide +kernel
theorem dX11_image_51 : decode cX11_image 51 = .ok (.iinc 1 1, 3) := by decide +kernel
theorem dX11_image_54 : decode cX11_image 54 = .ok (.goto (-30), 3) := by decide +kernel
theorem dX11_image_57 : decode cX11_image 57 = .ok (.aload_n 0, 1) := by decide +kernel
theorem dX11_image_58 : decode cX11_image 58 = .ok (.getfield 18, 3) := by decide +kernel
theorem dX11_image_61 : decode cX11_image 61 = .ok (.aload_n 0, 1) := by decide +kernel
theorem dX11_image_62 : decode cX11_image 62 = .ok (.getfield 43, 3) := by decide +kernel
theorem dX11_image_65 : decode cX11_image 65 = .ok (.getfield 177, 3) := by decide +kernel
theorem dX11_image_68 : decode cX11_image 68 = .ok (.invokevirtual 264, 3) := by decide +kernel
theorem dX11_image_71 : decode cX11_image 71 = .ok (.aload_n 0, 1) := by decide +kernel
theorem dX11_image_72 : decode cX11_image 72 = .ok (.getfield 18, 3) := by decide +kernel
theorem dX11_image_75 : decode cX11_image 75 = .ok (.aload_n 0, 1) := by decide +kernel
theorem dX11_image_76 : decode cX11_image 76 = .ok (.getfield 43, 3) := by decide +kernel
theorem dX11_image_79 : decode cX11_image 79 = .ok (.getfield 180, 3) := by decide +kernel
theorem dX11_image_82 : decode cX11_image 82 = .ok (.invokevirtual 264, 3) := by decide +kernel
theorem dX11_image_85 : decode cX11_image 85 = .ok (.aload_n 0, 1) := by decide +kernel
theorem dX11_image_86 : decode cX11_image 86 = .ok (.getfield 18, 3) := by decide +kernel
theorem dX11_image_89 : decode cX11_image 89 = .ok (.aload_n 0, 1) := by decide +kernel
theorem dX11_image_90 : decode cX11_image 90 = .ok (.getfield 18, 3) := by decide +kernel
theorem dX11_image_93 : decode cX11_image 93 = .ok (.aload_n 0, 1) := by decide +kernel
theorem dX11_image_94 : decode cX11_image 94 = .ok (.getfield 18, 3) := by decide +kernel
theorem dX11_image_97 : decode cX11_image 97 = .ok (.getfield 100, 3) := by decide +kernel
theorem dX11_image_100 : decode cX11_image 100 = .ok (.invokevirtual 420, 3) := by decide +kernel
theorem dX11_image_103 : decode cX11_image 103 = .ok (.invokevirtual 264, 3) := by decide +kernel
theorem dX11_image_106 : decode cX11_image 106 = .ok (.aload_n 0, 1) := by decide +kernel
theorem dX11_image_107 : decode cX11_image 107 = .ok (.getfield 18, 3) := by decide +kernel
theorem dX11_image_110 : decode cX11_image 110 = .ok (.getfield 100, 3) := by decide +kernel
theorem dX11_image_113 : decode cX11_image 113 = .ok (.ireturn, 1) := by decide +kernel
theorem dX11_on_0 : decode cX11_on 0 = .ok (.aload_n 0, 1) := by decide +kernel
theorem dX11_on_1 : decode cX11_on 1 = .ok (.invokevirtual 204, 3) := by decide +kernel
theorem dX11_on_4 : decode cX11_on 4 = .ok (.ifCond .eq 14, 3) := by decide +kernel
theorem dX11_on_7 : decode cX11_on 7 = .ok (.aload_n 0, 1) := by decide +kernel
theorem dX11_on_8 : decode cX11_on 8 = .ok (.invokevirtual 423, 3) := by decide +kernel
theorem dX11_on_11 : decode cX11_on 11 = .ok (.ifCond .eq 7, 3) := by decide +kernel
theorem dX11_on_14 : decode cX11_on 14 = .ok (.iconst 1, 1) := by decide +kernel
theorem dX11_on_15 : decode cX11_on 15 = .ok (.goto 4, 3) := by decide +kernel
theorem dX11_on_18 : decode cX11_on 18 = .ok (.iconst 0, 1) := by decide +kernel
theorem dX11_on_19 : decode cX11_on 19 = .ok (.istore_n 1, 1) := by decide +kernel
theorem dX11_on_20 : decode cX11_on 20 = .ok (.iload_n 1, 1) := by decide +kernel
theorem dX11_on_21 : decode cX11_on 21 = .ok (.ifCond .eq 7, 3) := by decide +kernel
theorem dX11_on_24 : decode cX11_on 24 = .ok (.aload_n 0, 1) := by decide +kernel
theorem dX11_on_25 : decode cX11_on 25 = .ok (.invokevirtual 426, 3) := by decide +kernel
theorem dX11_on_28 : decode cX11_on 28 = .ok (.aload_n 0, 1) := by decide +kernel
theorem dX11_on_29 : decode cX11_on 29 = .ok (.getfield 14, 3) := by decide +kernel
theorem dX11_on_32 : decode cX11_on 32 = .ok (.iconst 0, 1) := by decide +kernel
theorem dX11_on_33 : decode cX11_on 33 = .ok (.putfield 100, 3) := by decide +kernel
theorem dX11_on_36 : decode cX11_on 36 = .ok (.iload_n 1, 1) := by decide +kernel
theorem dX11_on_37 : decode cX11_on 37 = .ok (.ifCond .ne 11, 3) := by decide +kernel
theorem dX11_on_40 : decode cX11_on 40 = .ok (.aload_n 0, 1) := by decide +kernel
theorem dX11_on_41 : decode cX11_on 41 = .ok (.iconst 5, 1) := by decide +kernel
theorem dX11_on_42 : decode cX11_on 42 = .ok (.invokevirtual 103, 3) := by decide +kernel
theorem dX11_on_45 : decode cX11_on 45 = .ok (.ifCond .eq 7, 3) := by decide +kernel
theorem dX11_on_48 : decode cX11_on 48 = .ok (.iconst 1, 1) := by decide +kernel
theorem dX11_on_49 : decode cX11_on 49 = .ok (.goto 4, 3) := by decide +kernel
theorem dX11_on_52 : decode cX11_on 52 = .ok (.iconst 0, 1) := by decide +kernel
theorem dX11_on_53 : decode cX11_on 53 = .ok (.ireturn, 1) := by decide +kernel
theorem dX11_isImage_0 : decode cX11_isImage 0 = .ok (.aload_n 0, 1) := by decide +kernel
theorem dX11_isImage_1 : decode cX11_isImage 1 = .ok (.getfield 14, 3) := by decide +kernel
theorem dX11_isImage_4 : decode cX11_isImage 4 = .ok (.iconst 0, 1) := by decide +kernel
theorem dX11_isImage_5 : decode cX11_isImage 5 = .ok (.invokevirtual 300, 3) := by decide +kernel
theorem dX11_isImage_8 : decode cX11_isImage 8 = .ok (.istore_n 1, 1) := by decide +kernel
theorem dX11_isImage_9 : decode cX11_isImage 9 = .ok (.iload_n 1, 1) := by decide +kernel
theorem dX11_isImage_10 : decode cX11_isImage 10 = .ok (.ifCond .lt 27, 3) := by decide +kernel
theorem dX11_isImage_13 : decode cX11_isImage 13 = .ok (.iload_n 1, 1) := by decide +kernel
theorem dX11_isImage_14 : decode cX11_isImage 14 = .ok (.aload_n 0, 1) := by decide +kernel
theorem dX11_isImage_15 : decode cX11_isImage 15 = .ok (.getfield 71, 3) := by decide +kernel
theorem dX11_isImage_18 : decode cX11_isImage 18 = .ok (.getfield 123, 3) := by decide +kernel
theorem dX11_isImage_21 : decode cX11_isImage 21 = .ok (.if_icmp .gt 16, 3) := by decide +kernel
theorem dX11_isImage_24 : decode cX11_isImage 24 = .ok (.aload_n 0, 1) := by decide +kernel
theorem dX11_isImage_25 : decode cX11_isImage 25 = .ok (.getfield 14, 3) := by decide +kernel
theorem dX11_isImage_28 : decode cX11_isImage 28 = .ok (.getfield 100, 3) := by decide +kernel
theorem dX11_isImage_31 : decode cX11_isImage 31 = .ok (.iload_n 1, 1) := by decide +kernel
theorem dX11_isImage_32 : decode cX11_isImage 32 = .ok (.iconst 4, 1) := by decide +kernel
theorem dX11_isImage_33 : decode cX11_isImage 33 = .ok (.iadd, 1) := by decide +kernel
theorem dX11_isImage_34 : decode cX11_isImage 34 = .ok (.if_icmp .eq 5, 3) := by decide +kernel
theorem dX11_isImage_37 : decode cX11_isImage 37 = .ok (.iconst 0, 1) := by decide +kernel
theorem dX11_isImage_38 : decode cX11_isImage 38 = .ok (.ireturn, 1) := by decide +kernel
theorem dX11_isImage_39 : decode cX11_isImage 39 = .ok (.iconst 0, 1) := by decide +kernel
theorem dX11_isImage_40 : decode cX11_isImage 40 = .ok (.istore_n 2, 1) := by decide +kernel
theorem dX11_isImage_41 : decode cX11_isImage 41 = .ok (.iconst 0, 1) := by decide +kernel
theorem dX11_isImage_42 : decode cX11_isImage 42 = .ok (.istore_n 3, 1) := by decide +kernel
theorem dX11_isImage_43 : decode cX11_isImage 43 = .ok (.iload_n 3, 1) := by decide +kernel
theorem dX11_isImage_44 : decode cX11_isImage 44 = .ok (.iload_n 1, 1) := by decide +kernel
theorem dX11_isImage_45 : decode cX11_isImage 45 = .ok (.if_icmp .ge 56, 3) := by decide +kernel
theorem dX11_isImage_48 : decode cX11_isImage 48 = .ok (.aload_n 0, 1) := by decide +kernel
theorem dX11_isImage_49 : decode cX11_isImage 49 = .ok (.getfield 14, 3) := by decide +kernel
theorem dX11_isImage_52 : decode cX11_isImage 52 = .ok (.iconst 1, 1) := by decide +kernel
theorem dX11_isImage_53 : decode cX11_isImage 53 = .ok (.iload_n 3, 1) := by decide +kernel
theorem dX11_isImage_54 : decode cX11_isImage 54 = .ok (.iadd, 1) := by decide +kernel
theorem dX11_isImage_55 : decode cX11_isImage 55 = .ok (.invokevirtual 300, 3) := by decide +kernel
theorem dX11_isImage_58 : decode cX11_isImage 58 = .ok (.istore 4, 2) := by decide +kernel
theorem dX11_isImage_60 : decode cX11_isImage 60 = .ok (.iload 4, 2) := by decide +kernel
theorem dX11_isImage_62 : decode cX11_isImage 62 = .ok (.ifCond .lt 24, 3) := by decide +kernel
theorem dX11_isImage_65 : decode cX11_isImage 65 = .ok (.iload 4, 2) := by decide +kernel
theorem dX11_isImage_67 : decode cX11_isImage 67 = .ok (.aload_n 0, 1) := by decide +kernel
theorem dX11_isImage_68 : decode cX11_isImage 68 = .ok (.getfield 71, 3) := by decide +kernel
theorem dX11_isImage_71 : decode cX11_isImage 71 = .ok (.getfield 123, 3) := by decide +kernel
theorem dX11_isImage_74 : decode cX11_isImage 74 = .ok (.if_icmp .ge 12, 3) := by decide +kernel
theorem dX11_isImage_77 : decode cX11_isImage 77 = .ok (.iload_n 2, 1) := by decide +kernel
theorem dX11_isImage_78 : decode cX11_isImage 78 = .ok (.iload 4, 2) := by decide +kernel
theorem dX11_isImage_80 : decode cX11_isImage 80 = .ok (.invokestatic 234, 3) := by decide +kernel
theorem dX11_isImage_83 : decode cX11_isImage 83 = .ok (.ifCond .eq 5, 3) := by decide +kernel
theorem dX11_isImage_86 : decode cX11_isImage 86 = .ok (.iconst 0, 1) := by decide +kernel
theorem dX11_isImage_87 : decode cX11_isImage 87 = .ok (.ireturn, 1) := by decide +kernel
theorem dX11_isImage_88 : decode cX11_isImage 88 = .ok (.iload_n 2, 1) := by decide +kernel
theorem dX11_isImage_89 : decode cX11_isImage 89 = .ok (.iconst 1, 1) := by decide +kernel
theorem dX11_isImage_90 : decode cX11_isImage 90 = .ok (.iload 4, 2) := by decide +kernel
theorem dX11_isImage_92 : decode cX11_isImage 92 = .ok (.ishl, 1) := by decide +kernel
theorem dX11_isImage_93 : decode cX11_isImage 93 = .ok (.ior, 1) := by decide +kernel
theorem dX11_isImage_94 : decode cX11_isImage 94 = .ok (.istore_n 2, 1) := by decide +kernel
theorem dX11_isImage_95 : decode cX11_isImage 95 = .ok (.iinc 3 1, 3) := by decide +kernel
theorem dX11_isImage_98 : decode cX11_isImage 98 = .ok (.goto (-55), 3) := by decide +kernel
theorem dX11_isImage_101 : decode cX11_isImage 101 = .ok (.aload_n 0, 1) := by decide +kernel
theorem dX11_isImage_102 : decode cX11_isImage 102 = .ok (.getfield 14, 3) := by decide +kernel
theorem dX11_isImage_105 : decode cX11_isImage 105 = .ok (.iload_n 1, 1) := by decide +kernel
theorem dX11_isImage_106 : decode cX11_isImage 106 = .ok (.iconst 2, 1) := by decide +kernel
theorem dX11_isImage_107 : decode cX11_isImage 107 = .ok (.iadd, 1) := by decide +kernel
theorem dX11_isImage_108 : decode cX11_isImage 108 = .ok (.invokevirtual 300, 3) := by decide +kernel
theorem dX11_isImage_111 : decode cX11_isImage 111 = .ok (.invokestatic 303, 3) := by decide +kernel
theorem dX11_isImage_114 : decode cX11_isImage 114 = .ok (.ifCond .eq 30, 3) := by decide +kernel
theorem dX11_isImage_117 : decode cX11_isImage 117 = .ok (.aload_n 0, 1) := by decide +kernel
theorem dX11_isImage_118 : decode cX11_isImage 118 = .ok (.getfield 14, 3) := by decide +kernel
theorem dX11_isImage_121 : decode cX11_isImage 121 = .ok (.iload_n 1, 1) := by decide +kernel
theorem dX11_isImage_122 : decode cX11_isImage 122 = .ok (.iconst 3, 1) := by decide +kernel
theorem dX11_isImage_123 : decode cX11_isImage 123 = .ok (.iadd, 1) := by decide +kernel
theorem dX11_isImage_124 : decode cX11_isImage 124 = .ok (.invokevirtual 300, 3) := by decide +kernel
theorem dX11_isImage_127 : decode cX11_isImage 127 = .ok (.aload_n 0, 1) := by decide +kernel
theorem dX11_isImage_128 : decode cX11_isImage 128 = .ok (.getfield 14, 3) := by decide +kernel
theorem dX11_isImage_131 : decode cX11_isImage 131 = .ok (.iload_n 1, 1) := by decide +kernel
theorem dX11_isImage_132 : decode cX11_isImage 132 = .ok (.iconst 3, 1) := by decide +kernel
theorem dX11_isImage_133 : decode cX11_isImage 133 = .ok (.iadd, 1) := by decide +kernel
theorem dX11_isImage_134 : decode cX11_isImage 134 = .ok (.invokevirtual 420, 3) := by decide +kernel
theorem dX11_isImage_137 : decode cX11_isImage 137 = .ok (.if_icmp .ne 7, 3) := by decide +kernel
theorem dX11_isImage_140 : decode cX11_isImage 140 = .ok (.iconst 1, 1) := by decide +kernel
theorem dX11_isImage_141 : decode cX11_isImage 141 = .ok (.goto 4, 3) := by decide +kernel
theorem dX11_isImage_144 : decode cX11_isImage 144 = .ok (.iconst 0, 1) := by decide +kernel
theorem dX11_isImage_145 : decode cX11_isImage 145 = .ok (.ireturn, 1) := by decide +kernel
theorem dX11_takeImage_0 : decode cX11_takeImage 0 = .ok (.aload_n 0, 1) := by decide +kernel
theorem dX11_takeImage_1 : decode cX11_takeImage 1 = .ok (.getfield 14, 3) := by decide +kernel
theorem dX11_takeImage_4 : decode cX11_takeImage 4 = .ok (.iconst 0, 1) := by decide +kernel
theorem dX11_takeImage_5 : decode cX11_takeImage 5 = .ok (.invokevirtual 300, 3) := by decide +kernel
theorem dX11_takeImage_8 : decode cX11_takeImage 8 = .ok (.bipush 12, 2) := by decide +kernel
theorem dX11_takeImage_10 : decode cX11_takeImage 10 = .ok (.invokestatic 429, 3) := by decide +kernel
theorem dX11_takeImage_13 : decode cX11_takeImage 13 = .ok (.istore_n 1, 1) := by decide +kernel
theorem dX11_takeImage_14 : decode cX11_takeImage 14 = .ok (.iconst 0, 1) := by decide +kernel
theorem dX11_takeImage_15 : decode cX11_takeImage 15 = .ok (.istore_n 2, 1) := by decide +kernel
theorem dX11_takeImage_16 : decode cX11_takeImage 16 = .ok (.iload_n 2, 1) := by decide +kernel
theorem dX11_takeImage_17 : decode cX11_takeImage 17 = .ok (.iload_n 1, 1) := by decide +kernel
theorem dX11_takeImage_18 : decode cX11_takeImage 18 = .ok (.if_icmp .ge 28, 3) := by decide +kernel
theorem dX11_takeImage_21 : decode cX11_takeImage 21 = .ok (.aload_n 0, 1) := by decide +kernel
theorem dX11_takeImage_22 : decode cX11_takeImage 22 = .ok (.getfield 43, 3) := by decide +kernel
theorem dX11_takeImage_25 : decode cX11_takeImage 25 = .ok (.getfield 417, 3) := by decide +kernel
theorem dX11_takeImage_28 : decode cX11_takeImage 28 = .ok (.iload_n 2, 1) := by decide +kernel
theorem dX11_takeImage_29 : decode cX11_takeImage 29 = .ok (.aload_n 0, 1) := by decide +kernel
theorem dX11_takeImage_30 : decode cX11_takeImage 30 = .ok (.getfield 14, 3) := by decide +kernel
theorem dX11_takeImage_33 : decode cX11_takeImage 33 = .ok (.iconst 1, 1) := by decide +kernel
theorem dX11_takeImage_34 : decode cX11_takeImage 34 = .ok (.iload_n 2, 1) := by decide +kernel
theorem dX11_takeImage_35 : decode cX11_takeImage 35 = .ok (.iadd, 1) := by decide +kernel
theorem dX11_takeImage_36 : decode cX11_takeImage 36 = .ok (.invokevirtual 300, 3) := by decide +kernel
theorem dX11_takeImage_39 : decode cX11_takeImage 39 = .ok (.iastore, 1) := by decide +kernel
theorem dX11_takeImage_40 : decode cX11_takeImage 40 = .ok (.iinc 2 1, 3) := by decide +kernel
theorem dX11_takeImage_43 : decode cX11_takeImage 43 = .ok (.goto (-27), 3) := by decide +kernel
theorem dX11_takeImage_46 : decode cX11_takeImage 46 = .ok (.aload_n 0, 1) := by decide +kernel
theorem dX11_takeImage_47 : decode cX11_takeImage 47 = .ok (.getfield 43, 3) := by decide +kernel
theorem dX11_takeImage_50 : decode cX11_takeImage 50 = .ok (.iload_n 1, 1) := by decide +kernel
theorem dX11_takeImage_51 : decode cX11_takeImage 51 = .ok (.iconst 0, 1) := by decide +kernel
theorem dX11_takeImage_52 : decode cX11_takeImage 52 = .ok (.invokestatic 434, 3) := by decide +kernel
theorem dX11_takeImage_55 : decode cX11_takeImage 55 = .ok (.putfield 176, 3) := by decide +kernel
theorem dX11_takeImage_58 : decode cX11_takeImage 58 = .ok (.aload_n 0, 1) := by decide +kernel
theorem dX11_takeImage_59 : decode cX11_takeImage 59 = .ok (.getfield 43, 3) := by decide +kernel
theorem dX11_takeImage_62 : decode cX11_takeImage 62 = .ok (.aload_n 0, 1) := by decide +kernel
theorem dX11_takeImage_63 : decode cX11_takeImage 63 = .ok (.getfield 14, 3) := by decide +kernel
theorem dX11_takeImage_66 : decode cX11_takeImage 66 = .ok (.iload_n 1, 1) := by decide +kernel
theorem dX11_takeImage_67 : decode cX11_takeImage 67 = .ok (.iconst 1, 1) := by decide +kernel
theorem dX11_takeImage_68 : decode cX11_takeImage 68 = .ok (.iadd, 1) := by decide +kernel
theorem dX11_takeImage_69 : decode cX11_takeImage 69 = .ok (.invokevirtual 300, 3) := by decide +kernel
theorem dX11_takeImage_72 : decode cX11_takeImage 72 = .ok (.putfield 177, 3) := by decide +kernel
theorem dX11_takeImage_75 : decode cX11_takeImage 75 = .ok (.aload_n 0, 1) := by decide +kernel
theorem dX11_takeImage_76 : decode cX11_takeImage 76 = .ok (.getfield 43, 3) := by decide +kernel
theorem dX11_takeImage_79 : decode cX11_takeImage 79 = .ok (.aload_n 0, 1) := by decide +kernel
theorem dX11_takeImage_80 : decode cX11_takeImage 80 = .ok (.getfield 14, 3) := by decide +kernel
theorem dX11_takeImage_83 : decode cX11_takeImage 83 = .ok (.iload_n 1, 1) := by decide +kernel
theorem dX11_takeImage_84 : decode cX11_takeImage 84 = .ok (.iconst 2, 1) := by decide +kernel
theorem dX11_takeImage_85 : decode cX11_takeImage 85 = .ok (.iadd, 1) := by decide +kernel
theorem dX11_takeImage_86 : decode cX11_takeImage 86 = .ok (.invokevirtual 300, 3) := by decide +kernel
theorem dX11_takeImage_89 : decode cX11_takeImage 89 = .ok (.putfield 180, 3) := by decide +kernel
theorem dX11_takeImage_92 : decode cX11_takeImage 92 = .ok (.aload_n 0, 1) := by decide +kernel
theorem dX11_takeImage_93 : decode cX11_takeImage 93 = .ok (.getfield 53, 3) := by decide +kernel
theorem dX11_takeImage_96 : decode cX11_takeImage 96 = .ok (.invokevirtual 150, 3) := by decide +kernel
theorem dX11_takeImage_99 : decode cX11_takeImage 99 = .ok (.return_, 1) := by decide +kernel
theorem dX11_status_0 : decode cX11_status 0 = .ok (.iload_n 1, 1) := by decide +kernel
theorem dX11_status_1 : decode cX11_status 1 = .ok (.ifCond .lt 18, 3) := by decide +kernel
theorem dX11_status_4 : decode cX11_status 4 = .ok (.iload_n 1, 1) := by decide +kernel
theorem dX11_status_5 : decode cX11_status 5 = .ok (.bipush 6, 2) := by decide +kernel
theorem dX11_status_7 : decode cX11_status 7 = .ok (.if_icmp .ge 12, 3) := by decide +kernel
theorem dX11_status_10 : decode cX11_status 10 = .ok (.aload_n 0, 1) := by decide +kernel
theorem dX11_status_11 : decode cX11_status 11 = .ok (.getfield 64, 3) := by decide +kernel
theorem dX11_status_14 : decode cX11_status 14 = .ok (.iload_n 1, 1) := by decide +kernel
theorem dX11_status_15 : decode cX11_status 15 = .ok (.iaload, 1) := by decide +kernel
theorem dX11_status_16 : decode cX11_status 16 = .ok (.goto 4, 3) := by decide +kernel
theorem dX11_status_19 : decode cX11_status 19 = .ok (.iconst (-1), 1) := by decide +kernel
theorem dX11_status_20 : decode cX11_status 20 = .ok (.ireturn, 1) := by decide +kernel
theorem dX11_refuse_0 : decode cX11_refuse 0 = .ok (.iload_n 1, 1) := by decide +kernel
theorem dX11_refuse_1 : decode cX11_refuse 1 = .ok (.ifCond .lt 19, 3) := by decide +kernel
theorem dX11_refuse_4 : decode cX11_refuse 4 = .ok (.iload_n 1, 1) := by decide +kernel
theorem dX11_refuse_5 : decode cX11_refuse 5 = .ok (.bipush 6, 2) := by decide +kernel
theorem dX11_refuse_7 : decode cX11_refuse 7 = .ok (.if_icmp .ge 13, 3) := by decide +kernel
theorem dX11_refuse_10 : decode cX11_refuse 10 = .ok (.aload_n 0, 1) := by decide +kernel
theorem dX11_refuse_11 : decode cX11_refuse 11 = .ok (.getfield 64, 3) := by decide +kernel
theorem dX11_refuse_14 : decode cX11_refuse 14 = .ok (.iload_n 1, 1) := by decide +kernel
theorem dX11_refuse_15 : decode cX11_refuse 15 = .ok (.dup2, 1) := by decide +kernel
theorem dX11_refuse_16 : decode cX11_refuse 16 = .ok (.iaload, 1) := by decide +kernel
theorem dX11_refuse_17 : decode cX11_refuse 17 = .ok (.iconst 1, 1) := by decide +kernel
theorem dX11_refuse_18 : decode cX11_refuse 18 = .ok (.iadd, 1) := by decide +kernel
theorem dX11_refuse_19 : decode cX11_refuse 19 = .ok (.iastore, 1) := by decide +kernel
theorem dX11_refuse_20 : decode cX11_refuse 20 = .ok (.iconst 0, 1) := by decide +kernel
theorem dX11_refuse_21 : decode cX11_refuse 21 = .ok (.ireturn, 1) := by decide +kernel
theorem dX11_matched_0 : decode cX11_matched 0 = .ok (.aload_n 0, 1) := by decide +kernel
theorem dX11_matched_1 : decode cX11_matched 1 = .ok (.getfield 71, 3) := by decide +kernel
theorem dX11_matched_4 : decode cX11_matched 4 = .ok (.getfield 130, 3) := by decide +kernel
theorem dX11_matched_7 : decode cX11_matched 7 = .ok (.ifCond .le 7, 3) := by decide +kernel
theorem dX11_matched_10 : decode cX11_matched 10 = .ok (.iconst 1, 1) := by decide +kernel
theorem dX11_matched_11 : decode cX11_matched 11 = .ok (.goto 4, 3) := by decide +kernel
theorem dX11_matched_14 : decode cX11_matched 14 = .ok (.iconst 0, 1) := by decide +kernel
theorem dX11_matched_15 : decode cX11_matched 15 = .ok (.ireturn, 1) := by decide +kernel
theorem dX11_isRule_0 : decode cX11_isRule 0 = .ok (.iload_n 0, 1) := by decide +kernel
theorem dX11_isRule_1 : decode cX11_isRule 1 = .ok (.ifCond .lt 12, 3) := by decide +kernel
theorem dX11_isRule_4 : decode cX11_isRule 4 = .ok (.iload_n 0, 1) := by decide +kernel
theorem dX11_isRule_5 : decode cX11_isRule 5 = .ok (.iconst 4, 1) := by decide +kernel
theorem dX11_isRule_6 : decode cX11_isRule 6 = .ok (.if_icmp .ge 7, 3) := by decide +kernel
theorem dX11_isRule_9 : decode cX11_isRule 9 = .ok (.iconst 1, 1) := by decide +kernel
theorem dX11_isRule_10 : decode cX11_isRule 10 = .ok (.goto 4, 3) := by decide +kernel
theorem dX11_isRule_13 : decode cX11_isRule 13 = .ok (.iconst 0, 1) := by decide +kernel
theorem dX11_isRule_14 : decode cX11_isRule 14 = .ok (.ireturn, 1) := by decide +kernel
theorem dX11_isIn_0 : decode cX11_isIn 0 = .ok (.iload_n 0, 1) := by decide +kernel
theorem dX11_isIn_1 : decode cX11_isIn 1 = .ok (.iload_n 1, 1) := by decide +kernel
theorem dX11_isIn_2 : decode cX11_isIn 2 = .ok (.ishr, 1) := by decide +kernel
theorem dX11_isIn_3 : decode cX11_isIn 3 = .ok (.iconst 1, 1) := by decide +kernel
theorem dX11_isIn_4 : decode cX11_isIn 4 = .ok (.iand, 1) := by decide +kernel
theorem dX11_isIn_5 : decode cX11_isIn 5 = .ok (.ifCond .eq 7, 3) := by decide +kernel
theorem dX11_isIn_8 : decode cX11_isIn 8 = .ok (.iconst 1, 1) := by decide +kernel
theorem dX11_isIn_9 : decode cX11_isIn 9 = .ok (.goto 4, 3) := by decide +kernel
theorem dX11_isIn_12 : decode cX11_isIn 12 = .ok (.iconst 0, 1) := by decide +kernel
theorem dX11_isIn_13 : decode cX11_isIn 13 = .ok (.ireturn, 1) := by decide +kernel
theorem dX11_letterOf_0 : decode cX11_letterOf 0 = .ok (.iload_n 0, 1) := by decide +kernel
theorem dX11_letterOf_1 : decode cX11_letterOf 1 = .ok (.istore_n 2, 1) := by decide +kernel
theorem dX11_letterOf_2 : decode cX11_letterOf 2 = .ok (.iconst 5, 1) := by decide +kernel
theorem dX11_letterOf_3 : decode cX11_letterOf 3 = .ok (.istore_n 3, 1) := by decide +kernel
theorem dX11_letterOf_4 : decode cX11_letterOf 4 = .ok (.iload_n 3, 1) := by decide +kernel
theorem dX11_letterOf_5 : decode cX11_letterOf 5 = .ok (.iload_n 1, 1) := by decide +kernel
theorem dX11_letterOf_6 : decode cX11_letterOf 6 = .ok (.if_icmp .le 14, 3) := by decide +kernel
theorem dX11_letterOf_9 : decode cX11_letterOf 9 = .ok (.iload_n 2, 1) := by decide +kernel
theorem dX11_letterOf_10 : decode cX11_letterOf 10 = .ok (.bipush 27, 2) := by decide +kernel
theorem dX11_letterOf_12 : decode cX11_letterOf 12 = .ok (.idiv, 1) := by decide +kernel
theorem dX11_letterOf_13 : decode cX11_letterOf 13 = .ok (.istore_n 2, 1) := by decide +kernel
theorem dX11_letterOf_14 : decode cX11_letterOf 14 = .ok (.iinc 3 (-1), 3) := by decide +kernel
theorem dX11_letterOf_17 : decode cX11_letterOf 17 = .ok (.goto (-13), 3) := by decide +kernel
theorem dX11_letterOf_20 : decode cX11_letterOf 20 = .ok (.iload_n 2, 1) := by decide +kernel
theorem dX11_letterOf_21 : decode cX11_letterOf 21 = .ok (.bipush 27, 2) := by decide +kernel
theorem dX11_letterOf_23 : decode cX11_letterOf 23 = .ok (.irem, 1) := by decide +kernel
theorem dX11_letterOf_24 : decode cX11_letterOf 24 = .ok (.ireturn, 1) := by decide +kernel
theorem dX12_init_0 : decode cX12_init 0 = .ok (.aload_n 0, 1) := by decide +kernel
theorem dX12_init_1 : decode cX12_init 1 = .ok (.invokespecial 1, 3) := by decide +kernel
theorem dX12_init_4 : decode cX12_init 4 = .ok (.aload_n 0, 1) := by decide +kernel
theorem dX12_init_5 : decode cX12_init 5 = .ok (.sipush 1800, 3) := by decide +kernel
theorem dX12_init_8 : decode cX12_init 8 = .ok (.newarray .int, 2) := by decide +kernel
theorem dX12_init_10 : decode cX12_init 10 = .ok (.putfield 7, 3) := by decide +kernel
theorem dX12_init_13 : decode cX12_init 13 = .ok (.aload_n 0, 1) := by decide +kernel
theorem dX12_init_14 : decode cX12_init 14 = .ok (.iconst 0, 1) := by decide +kernel
theorem dX12_init_15 : decode cX12_init 15 = .ok (.putfield 13, 3) := by decide +kernel
theorem dX12_init_18 : decode cX12_init 18 = .ok (.aload_n 0, 1) := by decide +kernel
theorem dX12_init_19 : decode cX12_init 19 = .ok (.iconst 0, 1) := by decide +kernel
theorem dX12_init_20 : decode cX12_init 20 = .ok (.putfield 17, 3) := by decide +kernel
theorem dX12_init_23 : decode cX12_init 23 = .ok (.aload_n 0, 1) := by decide +kernel
theorem dX12_init_24 : decode cX12_init 24 = .ok (.iconst 0, 1) := by decide +kernel
theorem dX12_init_25 : decode cX12_init 25 = .ok (.putfield 20, 3) := by decide +kernel
theorem dX12_init_28 : decode cX12_init 28 = .ok (.aload_n 0, 1) := by decide +kernel
theorem dX12_init_29 : decode cX12_init 29 = .ok (.iconst 0, 1) := by decide +kernel
theorem dX12_init_30 : decode cX12_init 30 = .ok (.putfield 23, 3) := by decide +kernel
theorem dX12_init_33 : decode cX12_init 33 = .ok (.aload_n 0, 1) := by decide +kernel
theorem dX12_init_34 : decode cX12_init 34 = .ok (.iconst 0, 1) := by decide +kernel
theorem dX12_init_35 : decode cX12_init 35 = .ok (.putfield 26, 3) := by decide +kernel
theorem dX12_init_38 : decode cX12_init 38 = .ok (.aload_n 0, 1) := by decide +kernel
theorem dX12_init_39 : decode cX12_init 39 = .ok (.iconst 0, 1) := by decide +kernel
theorem dX12_init_40 : decode cX12_init 40 = .ok (.putfield 29, 3) := by decide +kernel
theorem dX12_init_43 : decode cX12_init 43 = .ok (.aload_n 0, 1) := by decide +kernel
theorem dX12_init_44 : decode cX12_init 44 = .ok (.lconst 0, 1) := by decide +kernel
theorem dX12_init_45 : decode cX12_init 45 = .ok (.putfield 32, 3) := by decide +kernel
theorem dX12_init_48 : decode cX12_init 48 = .ok (.aload_n 0, 1) := by decide +kernel
theorem dX12_init_49 : decode cX12_init 49 = .ok (.iconst 0, 1) := by decide +kernel
theorem dX12_init_50 : decode cX12_init 50 = .ok (.putfield 36, 3) := by decide +kernel
theorem dX12_init_53 : decode cX12_init 53 = .ok (.aload_n 0, 1) := by decide +kernel
theorem dX12_init_54 : decode cX12_init 54 = .ok (.iconst (-1), 1) := by decide +kernel
theorem dX12_init_55 : decode cX12_init 55 = .ok (.putfield 39, 3) := by decide +kernel
theorem dX12_init_58 : decode cX12_init 58 = .ok (.aload_n 0, 1) := by decide +kernel
theorem dX12_init_59 : decode cX12_init 59 = .ok (.iconst 0, 1) := by decide +kernel
theorem dX12_init_60 : decode cX12_init 60 = .ok (.putfield 42, 3) := by decide +kernel
theorem dX12_init_63 : decode cX12_init 63 = .ok (.aload_n 0, 1) := by decide +kernel
end
section
theorem dX12_init_64 : decode cX12_init 64 = .ok (.iconst (-1), 1) := by decide +kernel
theorem dX12_init_65 : decode cX12_init 65 = .ok (.putfield 45, 3) := by decide +kernel
theorem dX12_init_68 : decode cX12_init 68 = .ok (.aload_n 0, 1) := by decide +kernel
theorem dX12_init_69 : decode cX12_init 69 = .ok (.iconst (-1), 1) := by decide +kernel
theorem dX12_init_70 : decode cX12_init 70 = .ok (.putfield 48, 3) := by decide +kernel
theorem dX12_init_73 : decode cX12_init 73 = .ok (.aload_n 0, 1) := by decide +kernel
theorem dX12_init_74 : decode cX12_init 74 = .ok (.iconst 0, 1) := by decide +kernel
theorem dX12_init_75 : decode cX12_init 75 = .ok (.putfield 51, 3) := by decide +kernel
theorem dX12_init_78 : decode cX12_init 78 = .ok (.aload_n 0, 1) := by decide +kernel
theorem dX12_init_79 : decode cX12_init 79 = .ok (.iconst 2, 1) := by decide +kernel
theorem dX12_init_80 : decode cX12_init 80 = .ok (.newarray .int, 2) := by decide +kernel
theorem dX12_init_82 : decode cX12_init 82 = .ok (.putfield 54, 3) := by decide +kernel
theorem dX12_init_85 : decode cX12_init 85 = .ok (.aload_n 0, 1) := by decide +kernel
theorem dX12_init_86 : decode cX12_init 86 = .ok (.bipush 10, 2) := by decide +kernel
theorem dX12_init_88 : decode cX12_init 88 = .ok (.newarray .int, 2) := by decide +kernel
theorem dX12_init_90 : decode cX12_init 90 = .ok (.putfield 57, 3) := by decide +kernel
theorem dX12_init_93 : decode cX12_init 93 = .ok (.aload_n 0, 1) := by decide +kernel
theorem dX12_init_94 : decode cX12_init 94 = .ok (.bipush 10, 2) := by decide +kernel
theorem dX12_init_96 : decode cX12_init 96 = .ok (.newarray .int, 2) := by decide +kernel
theorem dX12_init_98 : decode cX12_init 98 = .ok (.putfield 60, 3) := by decide +kernel
theorem dX12_init_101 : decode cX12_init 101 = .ok (.aload_n 0, 1) := by decide +kernel
theorem dX12_init_102 : decode cX12_init 102 = .ok (.iconst 2, 1) := by decide +kernel
theorem dX12_init_103 : decode cX12_init 103 = .ok (.newarray .int, 2) := by decide +kernel
theorem dX12_init_105 : decode cX12_init 105 = .ok (.putfield 63, 3) := by decide +kernel
theorem dX12_init_108 : decode cX12_init 108 = .ok (.aload_n 0, 1) := by decide +kernel
theorem dX12_init_109 : decode cX12_init 109 = .ok (.bipush 48, 2) := by decide +kernel
theorem dX12_init_111 : decode cX12_init 111 = .ok (.newarray .int, 2) := by decide +kernel
theorem dX12_init_113 : decode cX12_init 113 = .ok (.putfield 66, 3) := by decide +kernel
theorem dX12_init_116 : decode cX12_init 116 = .ok (.aload_n 0, 1) := by decide +kernel
theorem dX12_init_117 : decode cX12_init 117 = .ok (.bipush 48, 2) := by decide +kernel
theorem dX12_init_119 : decode cX12_init 119 = .ok (.newarray .int, 2) := by decide +kernel
theorem dX12_init_121 : decode cX12_init 121 = .ok (.putfield 69, 3) := by decide +kernel
theorem dX12_init_124 : decode cX12_init 124 = .ok (.aload_n 0, 1) := by decide +kernel
theorem dX12_init_125 : decode cX12_init 125 = .ok (.bipush 96, 2) := by decide +kernel
theorem dX12_init_127 : decode cX12_init 127 = .ok (.newarray .int, 2) := by decide +kernel
theorem dX12_init_129 : decode cX12_init 129 = .ok (.putfield 72, 3) := by decide +kernel
theorem dX12_init_132 : decode cX12_init 132 = .ok (.aload_n 0, 1) := by decide +kernel
theorem dX12_init_133 : decode cX12_init 133 = .ok (.bipush 48, 2) := by decide +kernel
theorem dX12_init_135 : decode cX12_init 135 = .ok (.newarray .int, 2) := by decide +kernel
theorem dX12_init_137 : decode cX12_init 137 = .ok (.putfield 75, 3) := by decide +kernel
theorem dX12_init_140 : decode cX12_init 140 = .ok (.aload_n 0, 1) := by decide +kernel
theorem dX12_init_141 : decode cX12_init 141 = .ok (.bipush 48, 2) := by decide +kernel
theorem dX12_init_143 : decode cX12_init 143 = .ok (.newarray .int, 2) := by decide +kernel
theorem dX12_init_145 : decode cX12_init 145 = .ok (.putfield 78, 3) := by decide +kernel
theorem dX12_init_148 : decode cX12_init 148 = .ok (.aload_n 0, 1) := by decide +kernel
theorem dX12_init_149 : decode cX12_init 149 = .ok (.iconst 2, 1) := by decide +kernel
theorem dX12_init_150 : decode cX12_init 150 = .ok (.newarray .int, 2) := by decide +kernel
theorem dX12_init_152 : decode cX12_init 152 = .ok (.putfield 81, 3) := by decide +kernel
theorem dX12_init_155 : decode cX12_init 155 = .ok (.aload_n 0, 1) := by decide +kernel
theorem dX12_init_156 : decode cX12_init 156 = .ok (.bipush 8, 2) := by decide +kernel
theorem dX12_init_158 : decode cX12_init 158 = .ok (.newarray .int, 2) := by decide +kernel
theorem dX12_init_160 : decode cX12_init 160 = .ok (.putfield 84, 3) := by decide +kernel
theorem dX12_init_163 : decode cX12_init 163 = .ok (.aload_n 0, 1) := by decide +kernel
theorem dX12_init_164 : decode cX12_init 164 = .ok (.iconst 2, 1) := by decide +kernel
theorem dX12_init_165 : decode cX12_init 165 = .ok (.newarray .int, 2) := by decide +kernel
theorem dX12_init_167 : decode cX12_init 167 = .ok (.putfield 87, 3) := by decide +kernel
theorem dX12_init_170 : decode cX12_init 170 = .ok (.aload_n 0, 1) := by decide +kernel
theorem dX12_init_171 : decode cX12_init 171 = .ok (.bipush 24, 2) := by decide +kernel
theorem dX12_init_173 : decode cX12_init 173 = .ok (.newarray .int, 2) := by decide +kernel
theorem dX12_init_175 : decode cX12_init 175 = .ok (.putfield 90, 3) := by decide +kernel
theorem dX12_init_178 : decode cX12_init 178 = .ok (.aload_n 0, 1) := by decide +kernel
theorem dX12_init_179 : decode cX12_init 179 = .ok (.iconst 2, 1) := by decide +kernel
theorem dX12_init_180 : decode cX12_init 180 = .ok (.newarray .int, 2) := by decide +kernel
theorem dX12_init_182 : decode cX12_init 182 = .ok (.putfield 93, 3) := by decide +kernel
theorem dX12_init_185 : decode cX12_init 185 = .ok (.aload_n 0, 1) := by decide +kernel
theorem dX12_init_186 : decode cX12_init 186 = .ok (.iconst 2, 1) := by decide +kernel
theorem dX12_init_187 : decode cX12_init 187 = .ok (.newarray .int, 2) := by decide +kernel
theorem dX12_init_189 : decode cX12_init 189 = .ok (.putfield 96, 3) := by decide +kernel
theorem dX12_init_192 : decode cX12_init 192 = .ok (.aload_n 0, 1) := by decide +kernel
theorem dX12_init_193 : decode cX12_init 193 = .ok (.bipush 96, 2) := by decide +kernel
theorem dX12_init_195 : decode cX12_init 195 = .ok (.newarray .int, 2) := by decide +kernel
theorem dX12_init_197 : decode cX12_init 197 = .ok (.putfield 99, 3) := by decide +kernel
theorem dX12_init_200 : decode cX12_init 200 = .ok (.aload_n 0, 1) := by decide +kernel
theorem dX12_init_201 : decode cX12_init 201 = .ok (.bipush 96, 2) := by decide +kernel
theorem dX12_init_203 : decode cX12_init 203 = .ok (.newarray .int, 2) := by decide +kernel
theorem dX12_init_205 : decode cX12_init 205 = .ok (.putfield 102, 3) := by decide +kernel
theorem dX12_init_208 : decode cX12_init 208 = .ok (.aload_n 0, 1) := by decide +kernel
theorem dX12_init_209 : decode cX12_init 209 = .ok (.sipush 5600, 3) := by decide +kernel
theorem dX12_init_212 : decode cX12_init 212 = .ok (.newarray .int, 2) := by decide +kernel
theorem dX12_init_214 : decode cX12_init 214 = .ok (.putfield 105, 3) := by decide +kernel
theorem dX12_init_217 : decode cX12_init 217 = .ok (.aload_n 0, 1) := by decide +kernel
theorem dX12_init_218 : decode cX12_init 218 = .ok (.sipush 5600, 3) := by decide +kernel
theorem dX12_init_221 : decode cX12_init 221 = .ok (.newarray .int, 2) := by decide +kernel
theorem dX12_init_223 : decode cX12_init 223 = .ok (.putfield 108, 3) := by decide +kernel
theorem dX12_init_226 : decode cX12_init 226 = .ok (.aload_n 0, 1) := by decide +kernel
theorem dX12_init_227 : decode cX12_init 227 = .ok (.sipush 5600, 3) := by decide +kernel
theorem dX12_init_230 : decode cX12_init 230 = .ok (.newarray .int, 2) := by decide +kernel
theorem dX12_init_232 : decode cX12_init 232 = .ok (.putfield 111, 3) := by decide +kernel
theorem dX12_init_235 : decode cX12_init 235 = .ok (.aload_n 0, 1) := by decide +kernel
theorem dX12_init_236 : decode cX12_init 236 = .ok (.bipush 8, 2) := by decide +kernel
theorem dX12_init_238 : decode cX12_init 238 = .ok (.newarray .long, 2) := by decide +kernel
theorem dX12_init_240 : decode cX12_init 240 = .ok (.putfield 114, 3) := by decide +kernel
theorem dX12_init_243 : decode cX12_init 243 = .ok (.aload_n 0, 1) := by decide +kernel
theorem dX12_init_244 : decode cX12_init 244 = .ok (.bipush 48, 2) := by decide +kernel
theorem dX12_init_246 : decode cX12_init 246 = .ok (.newarray .long, 2) := by decide +kernel
theorem dX12_init_248 : decode cX12_init 248 = .ok (.putfield 118, 3) := by decide +kernel
theorem dX12_init_251 : decode cX12_init 251 = .ok (.aload_n 0, 1) := by decide +kernel
theorem dX12_init_252 : decode cX12_init 252 = .ok (.iconst 0, 1) := by decide +kernel
theorem dX12_init_253 : decode cX12_init 253 = .ok (.putfield 121, 3) := by decide +kernel
theorem dX12_init_256 : decode cX12_init 256 = .ok (.aload_n 0, 1) := by decide +kernel
theorem dX12_init_257 : decode cX12_init 257 = .ok (.iconst 1, 1) := by decide +kernel
theorem dX12_init_258 : decode cX12_init 258 = .ok (.putfield 124, 3) := by decide +kernel
theorem dX12_init_261 : decode cX12_init 261 = .ok (.aload_n 0, 1) := by decide +kernel
theorem dX12_init_262 : decode cX12_init 262 = .ok (.iconst 0, 1) := by decide +kernel
theorem dX12_init_263 : decode cX12_init 263 = .ok (.putfield 127, 3) := by decide +kernel
theorem dX12_init_266 : decode cX12_init 266 = .ok (.aload_n 0, 1) := by decide +kernel
theorem dX12_init_267 : decode cX12_init 267 = .ok (.bipush 10, 2) := by decide +kernel
theorem dX12_init_269 : decode cX12_init 269 = .ok (.newarray .int, 2) := by decide +kernel
theorem dX12_init_271 : decode cX12_init 271 = .ok (.putfield 131, 3) := by decide +kernel
theorem dX12_init_274 : decode cX12_init 274 = .ok (.aload_n 0, 1) := by decide +kernel
theorem dX12_init_275 : decode cX12_init 275 = .ok (.bipush 10, 2) := by decide +kernel
theorem dX12_init_277 : decode cX12_init 277 = .ok (.newarray .int, 2) := by decide +kernel
theorem dX12_init_279 : decode cX12_init 279 = .ok (.putfield 134, 3) := by decide +kernel
theorem dX12_init_282 : decode cX12_init 282 = .ok (.aload_n 0, 1) := by decide +kernel
theorem dX12_init_283 : decode cX12_init 283 = .ok (.bipush 10, 2) := by decide +kernel
theorem dX12_init_285 : decode cX12_init 285 = .ok (.newarray .int, 2) := by decide +kernel
theorem dX12_init_287 : decode cX12_init 287 = .ok (.putfield 137, 3) := by decide +kernel
theorem dX12_init_290 : decode cX12_init 290 = .ok (.aload_n 0, 1) := by decide +kernel
theorem dX12_init_291 : decode cX12_init 291 = .ok (.bipush 10, 2) := by decide +kernel
theorem dX12_init_293 : decode cX12_init 293 = .ok (.newarray .int, 2) := by decide +kernel
theorem dX12_init_295 : decode cX12_init 295 = .ok (.putfield 140, 3) := by decide +kernel
theorem dX12_init_298 : decode cX12_init 298 = .ok (.aload_n 0, 1) := by decide +kernel
theorem dX12_init_299 : decode cX12_init 299 = .ok (.iconst 0, 1) := by decide +kernel
theorem dX12_init_300 : decode cX12_init 300 = .ok (.putfield 143, 3) := by decide +kernel
theorem dX12_init_303 : decode cX12_init 303 = .ok (.aload_n 0, 1) := by decide +kernel
theorem dX12_init_304 : decode cX12_init 304 = .ok (.iconst 0, 1) := by decide +kernel
theorem dX12_init_305 : decode cX12_init 305 = .ok (.putfield 146, 3) := by decide +kernel
theorem dX12_init_308 : decode cX12_init 308 = .ok (.aload_n 0, 1) := by decide +kernel
theorem dX12_init_309 : decode cX12_init 309 = .ok (.bipush 6, 2) := by decide +kernel
theorem dX12_init_311 : decode cX12_init 311 = .ok (.newarray .int, 2) := by decide +kernel
theorem dX12_init_313 : decode cX12_init 313 = .ok (.putfield 149, 3) := by decide +kernel
theorem dX12_init_316 : decode cX12_init 316 = .ok (.aload_n 0, 1) := by decide +kernel
theorem dX12_init_317 : decode cX12_init 317 = .ok (.bipush 12, 2) := by decide +kernel
theorem dX12_init_319 : decode cX12_init 319 = .ok (.newarray .int, 2) := by decide +kernel
theorem dX12_init_321 : decode cX12_init 321 = .ok (.putfield 152, 3) := by decide +kernel
theorem dX12_init_324 : decode cX12_init 324 = .ok (.aload_n 0, 1) := by decide +kernel
theorem dX12_init_325 : decode cX12_init 325 = .ok (.sipush 900, 3) := by decide +kernel
theorem dX12_init_328 : decode cX12_init 328 = .ok (.newarray .int, 2) := by decide +kernel
theorem dX12_init_330 : decode cX12_init 330 = .ok (.putfield 155, 3) := by decide +kernel
theorem dX12_init_333 : decode cX12_init 333 = .ok (.aload_n 0, 1) := by decide +kernel
theorem dX12_init_334 : decode cX12_init 334 = .ok (.sipush 8040, 3) := by decide +kernel
theorem dX12_init_337 : decode cX12_init 337 = .ok (.newarray .int, 2) := by decide +kernel
theorem dX12_init_339 : decode cX12_init 339 = .ok (.putfield 158, 3) := by decide +kernel
theorem dX12_init_342 : decode cX12_init 342 = .ok (.aload_n 0, 1) := by decide +kernel
theorem dX12_init_343 : decode cX12_init 343 = .ok (.sipush 8040, 3) := by decide +kernel
theorem dX12_init_346 : decode cX12_init 346 = .ok (.newarray .int, 2) := by decide +kernel
theorem dX12_init_348 : decode cX12_init 348 = .ok (.putfield 161, 3) := by decide +kernel
theorem dX12_init_351 : decode cX12_init 351 = .ok (.aload_n 0, 1) := by decide +kernel
theorem dX12_init_352 : decode cX12_init 352 = .ok (.iconst 4, 1) := by decide +kernel
theorem dX12_init_353 : decode cX12_init 353 = .ok (.newarray .int, 2) := by decide +kernel
theorem dX12_init_355 : decode cX12_init 355 = .ok (.putfield 164, 3) := by decide +kernel
theorem dX12_init_358 : decode cX12_init 358 = .ok (.aload_n 0, 1) := by decide +kernel
theorem dX12_init_359 : decode cX12_init 359 = .ok (.sipush 4096, 3) := by decide +kernel
theorem dX12_init_362 : decode cX12_init 362 = .ok (.newarray .int, 2) := by decide +kernel
theorem dX12_init_364 : decode cX12_init 364 = .ok (.putfield 167, 3) := by decide +kernel
theorem dX12_init_367 : decode cX12_init 367 = .ok (.aload_n 0, 1) := by decide +kernel
theorem dX12_init_368 : decode cX12_init 368 = .ok (.iconst 0, 1) := by decide +kernel
theorem dX12_init_369 : decode cX12_init 369 = .ok (.putfield 170, 3) := by decide +kernel
theorem dX12_init_372 : decode cX12_init 372 = .ok (.aload_n 0, 1) := by decide +kernel
theorem dX12_init_373 : decode cX12_init 373 = .ok (.bipush 22, 2) := by decide +kernel
theorem dX12_init_375 : decode cX12_init 375 = .ok (.newarray .int, 2) := by decide +kernel
theorem dX12_init_377 : decode cX12_init 377 = .ok (.putfield 173, 3) := by decide +kernel
theorem dX12_init_380 : decode cX12_init 380 = .ok (.aload_n 0, 1) := by decide +kernel
theorem dX12_init_381 : decode cX12_init 381 = .ok (.sipush 264, 3) := by decide +kernel
theorem dX12_init_384 : decode cX12_init 384 = .ok (.newarray .int, 2) := by decide +kernel
theorem dX12_init_386 : decode cX12_init 386 = .ok (.putfield 176, 3) := by decide +kernel
theorem dX12_init_389 : decode cX12_init 389 = .ok (.aload_n 0, 1) := by decide +kernel
theorem dX12_init_390 : decode cX12_init 390 = .ok (.bipush 22, 2) := by decide +kernel
theorem dX12_init_392 : decode cX12_init 392 = .ok (.newarray .int, 2) := by decide +kernel
theorem dX12_init_394 : decode cX12_init 394 = .ok (.putfield 179, 3) := by decide +kernel
theorem dX12_init_397 : decode cX12_init 397 = .ok (.aload_n 0, 1) := by decide +kernel
theorem dX12_init_398 : decode cX12_init 398 = .ok (.bipush 22, 2) := by decide +kernel
theorem dX12_init_400 : decode cX12_init 400 = .ok (.newarray .int, 2) := by decide +kernel
theorem dX12_init_402 : decode cX12_init 402 = .ok (.putfield 182, 3) := by decide +kernel
theorem dX12_init_405 : decode cX12_init 405 = .ok (.aload_n 0, 1) := by decide +kernel
theorem dX12_init_406 : decode cX12_init 406 = .ok (.bipush 22, 2) := by decide +kernel
theorem dX12_init_408 : decode cX12_init 408 = .ok (.newarray .int, 2) := by decide +kernel
theorem dX12_init_410 : decode cX12_init 410 = .ok (.putfield 185, 3) := by decide +kernel
theorem dX12_init_413 : decode cX12_init 413 = .ok (.aload_n 0, 1) := by decide +kernel
theorem dX12_init_414 : decode cX12_init 414 = .ok (.sipush 2640, 3) := by decide +kernel
theorem dX12_init_417 : decode cX12_init 417 = .ok (.newarray .int, 2) := by decide +kernel
theorem dX12_init_419 : decode cX12_init 419 = .ok (.putfield 188, 3) := by decide +kernel
theorem dX12_init_422 : decode cX12_init 422 = .ok (.aload_n 0, 1) := by decide +kernel
theorem dX12_init_423 : decode cX12_init 423 = .ok (.iconst 0, 1) := by decide +kernel
theorem dX12_init_424 : decode cX12_init 424 = .ok (.putfield 191, 3) := by decide +kernel
theorem dX12_init_427 : decode cX12_init 427 = .ok (.aload_n 0, 1) := by decide +kernel
theorem dX12_init_428 : decode cX12_init 428 = .ok (.iconst 0, 1) := by decide +kernel
theorem dX12_init_429 : decode cX12_init 429 = .ok (.putfield 194, 3) := by decide +kernel
theorem dX12_init_432 : decode cX12_init 432 = .ok (.aload_n 0, 1) := by decide +kernel
theorem dX12_init_433 : decode cX12_init 433 = .ok (.lconst 1, 1) := by decide +kernel
theorem dX12_init_434 : decode cX12_init 434 = .ok (.putfield 197, 3) := by decide +kernel
theorem dX12_init_437 : decode cX12_init 437 = .ok (.aload_n 0, 1) := by decide +kernel
theorem dX12_init_438 : decode cX12_init 438 = .ok (.iconst 0, 1) := by decide +kernel
theorem dX12_init_439 : decode cX12_init 439 = .ok (.putfield 200, 3) := by decide +kernel
theorem dX12_init_442 : decode cX12_init 442 = .ok (.aload_n 0, 1) := by decide +kernel
theorem dX12_init_443 : decode cX12_init 443 = .ok (.sipush 8040, 3) := by decide +kernel
theorem dX12_init_446 : decode cX12_init 446 = .ok (.newarray .int, 2) := by decide +kernel
theorem dX12_init_448 : decode cX12_init 448 = .ok (.putfield 203, 3) := by decide +kernel
theorem dX12_init_451 : decode cX12_init 451 = .ok (.aload_n 0, 1) := by decide +kernel
theorem dX12_init_452 : decode cX12_init 452 = .ok (.iconst 4, 1) := by decide +kernel
theorem dX12_init_453 : decode cX12_init 453 = .ok (.newarray .int, 2) := by decide +kernel
theorem dX12_init_455 : decode cX12_init 455 = .ok (.putfield 206, 3) := by decide +kernel
theorem dX12_init_458 : decode cX12_init 458 = .ok (.aload_n 0, 1) := by decide +kernel
theorem dX12_init_459 : decode cX12_init 459 = .ok (.bipush 12, 2) := by decide +kernel
theorem dX12_init_461 : decode cX12_init 461 = .ok (.newarray .int, 2) := by decide +kernel
theorem dX12_init_463 : decode cX12_init 463 = .ok (.putfield 209, 3) := by decide +kernel
theorem dX12_init_466 : decode cX12_init 466 = .ok (.aload_n 0, 1) := by decide +kernel
theorem dX12_init_467 : decode cX12_init 467 = .ok (.iconst 0, 1) := by decide +kernel
theorem dX12_init_468 : decode cX12_init 468 = .ok (.putfield 212, 3) := by decide +kernel
theorem dX12_init_471 : decode cX12_init 471 = .ok (.aload_n 0, 1) := by decide +kernel
theorem dX12_init_472 : decode cX12_init 472 = .ok (.iconst 4, 1) := by decide +kernel
theorem dX12_init_473 : decode cX12_init 473 = .ok (.newarray .int, 2) := by decide +kernel
theorem dX12_init_475 : decode cX12_init 475 = .ok (.putfield 215, 3) := by decide +kernel
theorem dX12_init_478 : decode cX12_init 478 = .ok (.aload_n 0, 1) := by decide +kernel
theorem dX12_init_479 : decode cX12_init 479 = .ok (.sipush 4096, 3) := by decide +kernel
theorem dX12_init_482 : decode cX12_init 482 = .ok (.newarray .int, 2) := by decide +kernel
theorem dX12_init_484 : decode cX12_init 484 = .ok (.putfield 218, 3) := by decide +kernel
theorem dX12_init_487 : decode cX12_init 487 = .ok (.aload_n 0, 1) := by decide +kernel
theorem dX12_init_488 : decode cX12_init 488 = .ok (.sipush 1800, 3) := by decide +kernel
theorem dX12_init_491 : decode cX12_init 491 = .ok (.newarray .int, 2) := by decide +kernel
theorem dX12_init_493 : decode cX12_init 493 = .ok (.putfield 221, 3) := by decide +kernel
theorem dX12_init_496 : decode cX12_init 496 = .ok (.aload_n 0, 1) := by decide +kernel
theorem dX12_init_497 : decode cX12_init 497 = .ok (.iconst 0, 1) := by decide +kernel
theorem dX12_init_498 : decode cX12_init 498 = .ok (.putfield 224, 3) := by decide +kernel
theorem dX12_init_501 : decode cX12_init 501 = .ok (.aload_n 0, 1) := by decide +kernel
theorem dX12_init_502 : decode cX12_init 502 = .ok (.bipush 40, 2) := by decide +kernel
theorem dX12_init_504 : decode cX12_init 504 = .ok (.newarray .int, 2) := by decide +kernel
theorem dX12_init_506 : decode cX12_init 506 = .ok (.putfield 227, 3) := by decide +kernel
theorem dX12_init_509 : decode cX12_init 509 = .ok (.aload_n 0, 1) := by decide +kernel
theorem dX12_init_510 : decode cX12_init 510 = .ok (.bipush 40, 2) := by decide +kernel
theorem dX12_init_512 : decode cX12_init 512 = .ok (.newarray .int, 2) := by decide +kernel
theorem dX12_init_514 : decode cX12_init 514 = .ok (.putfield 230, 3) := by decide +kernel
theorem dX12_init_517 : decode cX12_init 517 = .ok (.aload_n 0, 1) := by decide +kernel
theorem dX12_init_518 : decode cX12_init 518 = .ok (.iconst 0, 1) := by decide +kernel
theorem dX12_init_519 : decode cX12_init 519 = .ok (.putfield 233, 3) := by decide +kernel
theorem dX12_init_522 : decode cX12_init 522 = .ok (.aload_n 0, 1) := by decide +kernel
theorem dX12_init_523 : decode cX12_init 523 = .ok (.iconst 0, 1) := by decide +kernel
theorem dX12_init_524 : decode cX12_init 524 = .ok (.putfield 236, 3) := by decide +kernel
theorem dX12_init_527 : decode cX12_init 527 = .ok (.aload_n 0, 1) := by decide +kernel
theorem dX12_init_528 : decode cX12_init 528 = .ok (.ldc 239, 2) := by decide +kernel
theorem dX12_init_530 : decode cX12_init 530 = .ok (.newarray .int, 2) := by decide +kernel
theorem dX12_init_532 : decode cX12_init 532 = .ok (.putfield 240, 3) := by decide +kernel
theorem dX12_init_535 : decode cX12_init 535 = .ok (.aload_n 0, 1) := by decide +kernel
theorem dX12_init_536 : decode cX12_init 536 = .ok (.iconst 0, 1) := by decide +kernel
theorem dX12_init_537 : decode cX12_init 537 = .ok (.putfield 243, 3) := by decide +kernel
theorem dX12_init_540 : decode cX12_init 540 = .ok (.aload_n 0, 1) := by decide +kernel
theorem dX12_init_541 : decode cX12_init 541 = .ok (.sipush 4096, 3) := by decide +kernel
theorem dX12_init_544 : decode cX12_init 544 = .ok (.newarray .int, 2) := by decide +kernel
theorem dX12_init_546 : decode cX12_init 546 = .ok (.putfield 246, 3) := by decide +kernel
theorem dX12_init_549 : decode cX12_init 549 = .ok (.aload_n 0, 1) := by decide +kernel
theorem dX12_init_550 : decode cX12_init 550 = .ok (.iconst 0, 1) := by decide +kernel
theorem dX12_init_551 : decode cX12_init 551 = .ok (.putfield 249, 3) := by decide +kernel
theorem dX12_init_554 : decode cX12_init 554 = .ok (.aload_n 0, 1) := by decide +kernel
theorem dX12_init_555 : decode cX12_init 555 = .ok (.ldc 239, 2) := by decide +kernel
theorem dX12_init_557 : decode cX12_init 557 = .ok (.newarray .int, 2) := by decide +kernel
theorem dX12_init_559 : decode cX12_init 559 = .ok (.putfield 252, 3) := by decide +kernel
theorem dX12_init_562 : decode cX12_init 562 = .ok (.aload_n 0, 1) := by decide +kernel
theorem dX12_init_563 : decode cX12_init 563 = .ok (.ldc 239, 2) := by decide +kernel
theorem dX12_init_565 : decode cX12_init 565 = .ok (.newarray .int, 2) := by decide +kernel
theorem dX12_init_567 : decode cX12_init 567 = .ok (.putfield 255, 3) := by decide +kernel
theorem dX12_init_570 : decode cX12_init 570 = .ok (.aload_n 0, 1) := by decide +kernel
theorem dX12_init_571 : decode cX12_init 571 = .ok (.iconst 0, 1) := by decide +kernel
theorem dX12_init_572 : decode cX12_init 572 = .ok (.putfield 258, 3) := by decide +kernel
theorem dX12_init_575 : decode cX12_init 575 = .ok (.aload_n 0, 1) := by decide +kernel
theorem dX12_init_576 : decode cX12_init 576 = .ok (.ldc 239, 2) := by decide +kernel
theorem dX12_init_578 : decode cX12_init 578 = .ok (.newarray .int, 2) := by decide +kernel
theorem dX12_init_580 : decode cX12_init 580 = .ok (.putfield 261, 3) := by decide +kernel
theorem dX12_init_583 : decode cX12_init 583 = .ok (.aload_n 0, 1) := by decide +kernel
theorem dX12_init_584 : decode cX12_init 584 = .ok (.bipush 40, 2) := by decide +kernel
theorem dX12_init_586 : decode cX12_init 586 = .ok (.newarray .int, 2) := by decide +kernel
theorem dX12_init_588 : decode cX12_init 588 = .ok (.putfield 264, 3) := by decide +kernel
theorem dX12_init_591 : decode cX12_init 591 = .ok (.aload_n 0, 1) := by decide +kernel
theorem dX12_init_592 : decode cX12_init 592 = .ok (.bipush 40, 2) := by decide +kernel
theorem dX12_init_594 : decode cX12_init 594 = .ok (.newarray .int, 2) := by decide +kernel
theorem dX12_init_596 : decode cX12_init 596 = .ok (.putfield 267, 3) := by decide +kernel
theorem dX12_init_599 : decode cX12_init 599 = .ok (.aload_n 0, 1) := by decide +kernel
theorem dX12_init_600 : decode cX12_init 600 = .ok (.bipush 40, 2) := by decide +kernel
theorem dX12_init_602 : decode cX12_init 602 = .ok (.newarray .int, 2) := by decide +kernel
theorem dX12_init_604 : decode cX12_init 604 = .ok (.putfield 270, 3) := by decide +kernel
theorem dX12_init_607 : decode cX12_init 607 = .ok (.aload_n 0, 1) := by decide +kernel
theorem dX12_init_608 : decode cX12_init 608 = .ok (.sipush 1000, 3) := by decide +kernel
theorem dX12_init_611 : decode cX12_init 611 = .ok (.newarray .int, 2) := by decide +kernel
theorem dX12_init_613 : decode cX12_init 613 = .ok (.putfield 273, 3) := by decide +kernel
theorem dX12_init_616 : decode cX12_init 616 = .ok (.aload_n 0, 1) := by decide +kernel
theorem dX12_init_617 : decode cX12_init 617 = .ok (.iconst 0, 1) := by decide +kernel
theorem dX12_init_618 : decode cX12_init 618 = .ok (.putfield 276, 3) := by decide +kernel
theorem dX12_init_621 : decode cX12_init 621 = .ok (.aload_n 0, 1) := by decide +kernel
theorem dX12_init_622 : decode cX12_init 622 = .ok (.iconst 0, 1) := by decide +kernel
theorem dX12_init_623 : decode cX12_init 623 = .ok (.putfield 279, 3) := by decide +kernel
theorem dX12_init_626 : decode cX12_init 626 = .ok (.aload_n 0, 1) := by decide +kernel
theorem dX12_init_627 : decode cX12_init 627 = .ok (.iconst 0, 1) := by decide +kernel
theorem dX12_init_628 : decode cX12_init 628 = .ok (.putfield 282, 3) := by decide +kernel
theorem dX12_init_631 : decode cX12_init 631 = .ok (.aload_n 0, 1) := by decide +kernel
theorem dX12_init_632 : decode cX12_init 632 = .ok (.iconst 0, 1) := by decide +kernel
theorem dX12_init_633 : decode cX12_init 633 = .ok (.putfield 285, 3) := by decide +kernel
theorem dX12_init_636 : decode cX12_init 636 = .ok (.aload_n 0, 1) := by decide +kernel
theorem dX12_init_637 : decode cX12_init 637 = .ok (.bipush 12, 2) := by decide +kernel
theorem dX12_init_639 : decode cX12_init 639 = .ok (.newarray .int, 2) := by decide +kernel
theorem dX12_init_641 : decode cX12_init 641 = .ok (.putfield 288, 3) := by decide +kernel
theorem dX12_init_644 : decode cX12_init 644 = .ok (.aload_n 0, 1) := by decide +kernel
theorem dX12_init_645 : decode cX12_init 645 = .ok (.iconst 0, 1) := by decide +kernel
theorem dX12_init_646 : decode cX12_init 646 = .ok (.putfield 291, 3) := by decide +kernel
theorem dX12_init_649 : decode cX12_init 649 = .ok (.aload_n 0, 1) := by decide +kernel
theorem dX12_init_650 : decode cX12_init 650 = .ok (.bipush 16, 2) := by decide +kernel
theorem dX12_init_652 : decode cX12_init 652 = .ok (.newarray .int, 2) := by decide +kernel
theorem dX12_init_654 : decode cX12_init 654 = .ok (.putfield 294, 3) := by decide +kernel
theorem dX12_init_657 : decode cX12_init 657 = .ok (.aload_n 0, 1) := by decide +kernel
theorem dX12_init_658 : decode cX12_init 658 = .ok (.bipush 16, 2) := by decide +kernel
theorem dX12_init_660 : decode cX12_init 660 = .ok (.newarray .int, 2) := by decide +kernel
theorem dX12_init_662 : decode cX12_init 662 = .ok (.putfield 297, 3) := by decide +kernel
theorem dX12_init_665 : decode cX12_init 665 = .ok (.aload_n 0, 1) := by decide +kernel
theorem dX12_init_666 : decode cX12_init 666 = .ok (.sipush 256, 3) := by decide +kernel
theorem dX12_init_669 : decode cX12_init 669 = .ok (.newarray .int, 2) := by decide +kernel
theorem dX12_init_671 : decode cX12_init 671 = .ok (.putfield 300, 3) := by decide +kernel
theorem dX12_init_674 : decode cX12_init 674 = .ok (.aload_n 0, 1) := by decide +kernel
theorem dX12_init_675 : decode cX12_init 675 = .ok (.sipush 256, 3) := by decide +kernel
theorem dX12_init_678 : decode cX12_init 678 = .ok (.newarray .int, 2) := by decide +kernel
theorem dX12_init_680 : decode cX12_init 680 = .ok (.putfield 303, 3) := by decide +kernel
theorem dX12_init_683 : decode cX12_init 683 = .ok (.aload_n 0, 1) := by decide +kernel
theorem dX12_init_684 : decode cX12_init 684 = .ok (.bipush 13, 2) := by decide +kernel
theorem dX12_init_686 : decode cX12_init 686 = .ok (.newarray .int, 2) := by decide +kernel
theorem dX12_init_688 : decode cX12_init 688 = .ok (.putfield 306, 3) := by decide +kernel
theorem dX12_init_691 : decode cX12_init 691 = .ok (.aload_n 0, 1) := by decide +kernel
theorem dX12_init_692 : decode cX12_init 692 = .ok (.invokevirtual 309, 3) := by decide +kernel
theorem dX12_init_695 : decode cX12_init 695 = .ok (.return_, 1) := by decide +kernel
theorem dX12_is_0 : decode cX12_is 0 = .ok (.iload_n 0, 1) := by decide +kernel
theorem dX12_is_1 : decode cX12_is 1 = .ok (.iload_n 1, 1) := by decide +kernel
theorem dX12_is_2 : decode cX12_is 2 = .ok (.if_icmp .lt 12, 3) := by decide +kernel
theorem dX12_is_5 : decode cX12_is 5 = .ok (.iload_n 0, 1) := by decide +kernel
theorem dX12_is_6 : decode cX12_is 6 = .ok (.iload_n 2, 1) := by decide +kernel
theorem dX12_is_7 : decode cX12_is 7 = .ok (.if_icmp .gt 7, 3) := by decide +kernel
theorem dX12_is_10 : decode cX12_is 10 = .ok (.iconst 1, 1) := by decide +kernel
theorem dX12_is_11 : decode cX12_is 11 = .ok (.goto 4, 3) := by decide +kernel
theorem dX12_is_14 : decode cX12_is 14 = .ok (.iconst 0, 1) := by decide +kernel
theorem dX12_is_15 : decode cX12_is 15 = .ok (.ireturn, 1) := by decide +kernel
theorem dX12_put_0 : decode cX12_put 0 = .ok (.bipush 24, 2) := by decide +kernel
theorem dX12_put_2 : decode cX12_put 2 = .ok (.istore_n 2, 1) := by decide +kernel
theorem dX12_put_3 : decode cX12_put 3 = .ok (.iload_n 2, 1) := by decide +kernel
theorem dX12_put_4 : decode cX12_put 4 = .ok (.ifCond .lt 35, 3) := by decide +kernel
theorem dX12_put_7 : decode cX12_put 7 = .ok (.aload_n 0, 1) := by decide +kernel
theorem dX12_put_8 : decode cX12_put 8 = .ok (.getfield 7, 3) := by decide +kernel
theorem dX12_put_11 : decode cX12_put 11 = .ok (.aload_n 0, 1) := by decide +kernel
theorem dX12_put_12 : decode cX12_put 12 = .ok (.getfield 13, 3) := by decide +kernel
theorem dX12_put_15 : decode cX12_put 15 = .ok (.iload_n 1, 1) := by decide +kernel
theorem dX12_put_16 : decode cX12_put 16 = .ok (.iload_n 2, 1) := by decide +kernel
theorem dX12_put_17 : decode cX12_put 17 = .ok (.ishr, 1) := by decide +kernel
theorem dX12_put_18 : decode cX12_put 18 = .ok (.sipush 255, 3) := by decide +kernel
theorem dX12_put_21 : decode cX12_put 21 = .ok (.iand, 1) := by decide +kernel
theorem dX12_put_22 : decode cX12_put 22 = .ok (.iastore, 1) := by decide +kernel
theorem dX12_put_23 : decode cX12_put 23 = .ok (.aload_n 0, 1) := by decide +kernel
theorem dX12_put_24 : decode cX12_put 24 = .ok (.dup, 1) := by decide +kernel
theorem dX12_put_25 : decode cX12_put 25 = .ok (.getfield 13, 3) := by decide +kernel
theorem dX12_put_28 : decode cX12_put 28 = .ok (.iconst 1, 1) := by decide +kernel
theorem dX12_put_29 : decode cX12_put 29 = .ok (.iadd, 1) := by decide +kernel
theorem dX12_put_30 : decode cX12_put 30 = .ok (.putfield 13, 3) := by decide +kernel
theorem dX12_put_33 : decode cX12_put 33 = .ok (.iinc 2 (-8), 3) := by decide +kernel
theorem dX12_put_36 : decode cX12_put 36 = .ok (.goto (-33), 3) := by decide +kernel
theorem dX12_put_39 : decode cX12_put 39 = .ok (.return_, 1) := by decide +kernel
theorem dX12_feed_0 : decode cX12_feed 0 = .ok (.aload_n 0, 1) := by decide +kernel
theorem dX12_feed_1 : decode cX12_feed 1 = .ok (.getfield 13, 3) := by decide +kernel
theorem dX12_feed_4 : decode cX12_feed 4 = .ok (.bipush 20, 2) := by decide +kernel
theorem dX12_feed_6 : decode cX12_feed 6 = .ok (.iadd, 1) := by decide +kernel
theorem dX12_feed_7 : decode cX12_feed 7 = .ok (.sipush 1600, 3) := by decide +kernel
theorem dX12_feed_10 : decode cX12_feed 10 = .ok (.if_icmp .le 9, 3) := by decide +kernel
theorem dX12_feed_13 : decode cX12_feed 13 = .ok (.aload_n 0, 1) := by decide +kernel
theorem dX12_feed_14 : decode cX12_feed 14 = .ok (.iconst 0, 1) := by decide +kernel
theorem dX12_feed_15 : decode cX12_feed 15 = .ok (.invokevirtual 312, 3) := by decide +kernel
theorem dX12_feed_18 : decode cX12_feed 18 = .ok (.ireturn, 1) := by decide +kernel
theorem dX12_feed_19 : decode cX12_feed 19 = .ok (.aload_n 0, 1) := by decide +kernel
theorem dX12_feed_20 : decode cX12_feed 20 = .ok (.iload_n 1, 1) := by decide +kernel
theorem dX12_feed_21 : decode cX12_feed 21 = .ok (.invokevirtual 316, 3) := by decide +kernel
theorem dX12_feed_24 : decode cX12_feed 24 = .ok (.aload_n 0, 1) := by decide +kernel
theorem dX12_feed_25 : decode cX12_feed 25 = .ok (.iload_n 2, 1) := by decide +kernel
theorem dX12_feed_26 : decode cX12_feed 26 = .ok (.invokevirtual 316, 3) := by decide +kernel
theorem dX12_feed_29 : decode cX12_feed 29 = .ok (.aload_n 0, 1) := by decide +kernel
theorem dX12_feed_30 : decode cX12_feed 30 = .ok (.iload_n 3, 1) := by decide +kernel
theorem dX12_feed_31 : decode cX12_feed 31 = .ok (.invokevirtual 316, 3) := by decide +kernel
theorem dX12_feed_34 : decode cX12_feed 34 = .ok (.aload_n 0, 1) := by decide +kernel
theorem dX12_feed_35 : decode cX12_feed 35 = .ok (.iload 4, 2) := by decide +kernel
theorem dX12_feed_37 : decode cX12_feed 37 = .ok (.invokevirtual 316, 3) := by decide +kernel
theorem dX12_feed_40 : decode cX12_feed 40 = .ok (.aload_n 0, 1) := by decide +kernel
theorem dX12_feed_41 : decode cX12_feed 41 = .ok (.iload 5, 2) := by decide +kernel
theorem dX12_feed_43 : decode cX12_feed 43 = .ok (.invokevirtual 316, 3) := by decide +kernel
theorem dX12_feed_46 : decode cX12_feed 46 = .ok (.aload_n 0, 1) := by decide +kernel
theorem dX12_feed_47 : decode cX12_feed 47 = .ok (.getfield 13, 3) := by decide +kernel
theorem dX12_feed_50 : decode cX12_feed 50 = .ok (.ireturn, 1) := by decide +kernel
theorem dX12_end_0 : decode cX12_end 0 = .ok (.iload_n 1, 1) := by decide +kernel
theorem dX12_end_1 : decode cX12_end 1 = .ok (.ifCond .lt 11, 3) := by decide +kernel
theorem dX12_end_4 : decode cX12_end 4 = .ok (.iload_n 1, 1) := by decide +kernel
theorem dX12_end_5 : decode cX12_end 5 = .ok (.aload_n 0, 1) := by decide +kernel
theorem dX12_end_6 : decode cX12_end 6 = .ok (.getfield 13, 3) := by decide +kernel
theorem dX12_end_9 : decode cX12_end 9 = .ok (.if_icmp .le 17, 3) := by decide +kernel
theorem dX12_end_12 : decode cX12_end 12 = .ok (.aload_n 0, 1) := by decide +kernel
theorem dX12_end_13 : decode cX12_end 13 = .ok (.iconst 0, 1) := by decide +kernel
theorem dX12_end_14 : decode cX12_end 14 = .ok (.invokevirtual 312, 3) := by decide +kernel
theorem dX12_end_17 : decode cX12_end 17 = .ok (.ifCond .lt 7, 3) := by decide +kernel
theorem dX12_end_24 : decode cX12_end 24 = .ok (.iconst 0, 1) := by decide +kernel
theorem dX12_end_25 : decode cX12_end 25 = .ok (.ireturn, 1) := by decide +kernel
theorem dX12_end_26 : decode cX12_end 26 = .ok (.aload_n 0, 1) := by decide +kernel
theorem dX12_end_27 : decode cX12_end 27 = .ok (.iload_n 1, 1) := by decide +kernel
theorem dX12_end_28 : decode cX12_end 28 = .ok (.putfield 13, 3) := by decide +kernel
theorem dX12_end_31 : decode cX12_end 31 = .ok (.iconst 1, 1) := by decide +kernel
theorem dX12_end_32 : decode cX12_end 32 = .ok (.ireturn, 1) := by decide +kernel
theorem dX12_blame_0 : decode cX12_blame 0 = .ok (.aload_n 0, 1) := by decide +kernel
theorem dX12_blame_1 : decode cX12_blame 1 = .ok (.getfield 36, 3) := by decide +kernel
theorem dX12_blame_4 : decode cX12_blame 4 = .ok (.ifCond .le 4, 3) := by decide +kernel
theorem dX12_blame_7 : decode cX12_blame 7 = .ok (.return_, 1) := by decide +kernel
theorem dX12_blame_8 : decode cX12_blame 8 = .ok (.aload_n 0, 1) := by decide +kernel
theorem dX12_blame_9 : decode cX12_blame 9 = .ok (.iload_n 1, 1) := by decide +kernel
theorem dX12_blame_10 : decode cX12_blame 10 = .ok (.putfield 36, 3) := by decide +kernel
theorem dX12_blame_13 : decode cX12_blame 13 = .ok (.aload_n 0, 1) := by decide +kernel
theorem dX12_blame_14 : decode cX12_blame 14 = .ok (.iload_n 2, 1) := by decide +kernel
theorem dX12_blame_15 : decode cX12_blame 15 = .ok (.putfield 39, 3) := by decide +kernel
theorem dX12_blame_18 : decode cX12_blame 18 = .ok (.return_, 1) := by decide +kernel
theorem dX12_isLetter_0 : decode cX12_isLetter 0 = .ok (.iload_n 0, 1) := by decide +kernel
theorem dX12_isLetter_1 : decode cX12_isLetter 1 = .ok (.bipush 97, 2) := by decide +kernel
theorem dX12_isLetter_3 : decode cX12_isLetter 3 = .ok (.if_icmp .lt 13, 3) := by decide +kernel
theorem dX12_isLetter_6 : decode cX12_isLetter 6 = .ok (.iload_n 0, 1) := by decide +kernel
theorem dX12_isLetter_7 : decode cX12_isLetter 7 = .ok (.bipush 122, 2) := by decide +kernel
theorem dX12_isLetter_9 : decode cX12_isLetter 9 = .ok (.if_icmp .gt 7, 3) := by decide +kernel
theorem dX12_isLetter_12 : decode cX12_isLetter 12 = .ok (.iconst 1, 1) := by decide +kernel
theorem dX12_isLetter_13 : decode cX12_isLetter 13 = .ok (.goto 4, 3) := by decide +kernel
theorem dX12_isLetter_16 : decode cX12_isLetter 16 = .ok (.iconst 0, 1) := by decide +kernel
theorem dX12_isLetter_17 : decode cX12_isLetter 17 = .ok (.ireturn, 1) := by decide +kernel
theorem dX12_isDigit_0 : decode cX12_isDigit 0 = .ok (.iload_n 0, 1) := by decide +kernel
theorem dX12_isDigit_1 : decode cX12_isDigit 1 = .ok (.bipush 48, 2) := by decide +kernel
theorem dX12_isDigit_3 : decode cX12_isDigit 3 = .ok (.if_icmp .lt 13, 3) := by decide +kernel
theorem dX12_isDigit_6 : decode cX12_isDigit 6 = .ok (.iload_n 0, 1) := by decide +kernel
end
