theorem dX6_fail_11 : decode cX6_fail 11 = .ok (.ireturn, 1) := by decide +kernel
theorem dX6_failHere_0 : decode cX6_failHere 0 = .ok (.aload_n 0, 1) := by decide +kernel
theorem dX6_failHere_1 : decode cX6_failHere 1 = .ok (.iconst 1, 1) := by decide +kernel
theorem dX6_failHere_2 : decode cX6_failHere 2 = .ok (.putfield 82, 3) := by decide +kernel
theorem dX6_failHere_5 : decode cX6_failHere 5 = .ok (.aload_n 0, 1) := by decide +kernel
theorem dX6_failHere_6 : decode cX6_failHere 6 = .ok (.aload_n 0, 1) := by decide +kernel
theorem dX6_failHere_7 : decode cX6_failHere 7 = .ok (.getfield 12, 3) := by decide +kernel
theorem dX6_failHere_10 : decode cX6_failHere 10 = .ok (.getfield 40, 3) := by decide +kernel
theorem dX6_failHere_13 : decode cX6_failHere 13 = .ok (.iconst 4, 1) := by decide +kernel
theorem dX6_failHere_14 : decode cX6_failHere 14 = .ok (.if_icmp .ne 13, 3) := by decide +kernel
theorem dX6_failHere_17 : decode cX6_failHere 17 = .ok (.aload_n 0, 1) := by decide +kernel
theorem dX6_failHere_18 : decode cX6_failHere 18 = .ok (.getfield 12, 3) := by decide +kernel
theorem dX6_failHere_21 : decode cX6_failHere 21 = .ok (.getfield 86, 3) := by decide +kernel
theorem dX6_failHere_24 : decode cX6_failHere 24 = .ok (.goto 10, 3) := by decide +kernel
theorem dX6_failHere_27 : decode cX6_failHere 27 = .ok (.aload_n 0, 1) := by decide +kernel
theorem dX6_failHere_28 : decode cX6_failHere 28 = .ok (.getfield 12, 3) := by decide +kernel
theorem dX6_failHere_31 : decode cX6_failHere 31 = .ok (.getfield 72, 3) := by decide +kernel
theorem dX6_failHere_34 : decode cX6_failHere 34 = .ok (.putfield 23, 3) := by decide +kernel
theorem dX6_failHere_37 : decode cX6_failHere 37 = .ok (.iconst 0, 1) := by decide +kernel
theorem dX6_failHere_38 : decode cX6_failHere 38 = .ok (.ireturn, 1) := by decide +kernel
theorem dX6_readSign_0 : decode cX6_readSign 0 = .ok (.aload_n 0, 1) := by decide +kernel
theorem dX6_readSign_1 : decode cX6_readSign 1 = .ok (.getfield 12, 3) := by decide +kernel
theorem dX6_readSign_4 : decode cX6_readSign 4 = .ok (.iload_n 1, 1) := by decide +kernel
theorem dX6_readSign_5 : decode cX6_readSign 5 = .ok (.invokevirtual 89, 3) := by decide +kernel
theorem dX6_readSign_8 : decode cX6_readSign 8 = .ok (.ifCond .ne 8, 3) := by decide +kernel
theorem dX6_readSign_11 : decode cX6_readSign 11 = .ok (.aload_n 0, 1) := by decide +kernel
theorem dX6_readSign_12 : decode cX6_readSign 12 = .ok (.invokevirtual 65, 3) := by decide +kernel
theorem dX6_readSign_15 : decode cX6_readSign 15 = .ok (.ireturn, 1) := by decide +kernel
theorem dX6_readSign_16 : decode cX6_readSign 16 = .ok (.aload_n 0, 1) := by decide +kernel
theorem dX6_readSign_17 : decode cX6_readSign 17 = .ok (.getfield 12, 3) := by decide +kernel
theorem dX6_readSign_20 : decode cX6_readSign 20 = .ok (.invokevirtual 92, 3) := by decide +kernel
theorem dX6_readSign_23 : decode cX6_readSign 23 = .ok (.iconst 1, 1) := by decide +kernel
theorem dX6_readSign_24 : decode cX6_readSign 24 = .ok (.ireturn, 1) := by decide +kernel
theorem dX6_readNumber_0 : decode cX6_readNumber 0 = .ok (.aload_n 0, 1) := by decide +kernel
theorem dX6_readNumber_1 : decode cX6_readNumber 1 = .ok (.getfield 12, 3) := by decide +kernel
theorem dX6_readNumber_4 : decode cX6_readNumber 4 = .ok (.getfield 40, 3) := by decide +kernel
theorem dX6_readNumber_7 : decode cX6_readNumber 7 = .ok (.iconst 2, 1) := by decide +kernel
theorem dX6_readNumber_8 : decode cX6_readNumber 8 = .ok (.if_icmp .eq 10, 3) := by decide +kernel
theorem dX6_readNumber_11 : decode cX6_readNumber 11 = .ok (.aload_n 0, 1) := by decide +kernel
theorem dX6_readNumber_12 : decode cX6_readNumber 12 = .ok (.invokevirtual 65, 3) := by decide +kernel
theorem dX6_readNumber_15 : decode cX6_readNumber 15 = .ok (.pop, 1) := by decide +kernel
theorem dX6_readNumber_16 : decode cX6_readNumber 16 = .ok (.iconst (-1), 1) := by decide +kernel
theorem dX6_readNumber_17 : decode cX6_readNumber 17 = .ok (.ireturn, 1) := by decide +kernel
theorem dX6_readNumber_18 : decode cX6_readNumber 18 = .ok (.aload_n 0, 1) := by decide +kernel
theorem dX6_readNumber_19 : decode cX6_readNumber 19 = .ok (.getfield 12, 3) := by decide +kernel
theorem dX6_readNumber_22 : decode cX6_readNumber 22 = .ok (.getfield 95, 3) := by decide +kernel
theorem dX6_readNumber_25 : decode cX6_readNumber 25 = .ok (.istore_n 3, 1) := by decide +kernel
theorem dX6_readNumber_26 : decode cX6_readNumber 26 = .ok (.iload_n 3, 1) := by decide +kernel
theorem dX6_readNumber_27 : decode cX6_readNumber 27 = .ok (.iload_n 1, 1) := by decide +kernel
theorem dX6_readNumber_28 : decode cX6_readNumber 28 = .ok (.if_icmp .lt 8, 3) := by decide +kernel
theorem dX6_readNumber_31 : decode cX6_readNumber 31 = .ok (.iload_n 3, 1) := by decide +kernel
theorem dX6_readNumber_32 : decode cX6_readNumber 32 = .ok (.iload_n 2, 1) := by decide +kernel
theorem dX6_readNumber_33 : decode cX6_readNumber 33 = .ok (.if_icmp .le 18, 3) := by decide +kernel
theorem dX6_readNumber_36 : decode cX6_readNumber 36 = .ok (.aload_n 0, 1) := by decide +kernel
theorem dX6_readNumber_37 : decode cX6_readNumber 37 = .ok (.iconst 4, 1) := by decide +kernel
theorem dX6_readNumber_38 : decode cX6_readNumber 38 = .ok (.aload_n 0, 1) := by decide +kernel
theorem dX6_readNumber_39 : decode cX6_readNumber 39 = .ok (.getfield 12, 3) := by decide +kernel
theorem dX6_readNumber_42 : decode cX6_readNumber 42 = .ok (.getfield 72, 3) := by decide +kernel
theorem dX6_readNumber_45 : decode cX6_readNumber 45 = .ok (.invokevirtual 75, 3) := by decide +kernel
theorem dX6_readNumber_48 : decode cX6_readNumber 48 = .ok (.pop, 1) := by decide +kernel
theorem dX6_readNumber_49 : decode cX6_readNumber 49 = .ok (.iconst (-1), 1) := by decide +kernel
theorem dX6_readNumber_50 : decode cX6_readNumber 50 = .ok (.ireturn, 1) := by decide +kernel
theorem dX6_readNumber_51 : decode cX6_readNumber 51 = .ok (.aload_n 0, 1) := by decide +kernel
theorem dX6_readNumber_52 : decode cX6_readNumber 52 = .ok (.getfield 12, 3) := by decide +kernel
theorem dX6_readNumber_55 : decode cX6_readNumber 55 = .ok (.invokevirtual 92, 3) := by decide +kernel
theorem dX6_readNumber_58 : decode cX6_readNumber 58 = .ok (.iload_n 3, 1) := by decide +kernel
theorem dX6_readNumber_59 : decode cX6_readNumber 59 = .ok (.ireturn, 1) := by decide +kernel
theorem dX6_readRule_0 : decode cX6_readRule 0 = .ok (.aload_n 0, 1) := by decide +kernel
theorem dX6_readRule_1 : decode cX6_readRule 1 = .ok (.getfield 12, 3) := by decide +kernel
theorem dX6_readRule_4 : decode cX6_readRule 4 = .ok (.invokevirtual 92, 3) := by decide +kernel
theorem dX6_readRule_7 : decode cX6_readRule 7 = .ok (.aload_n 0, 1) := by decide +kernel
theorem dX6_readRule_8 : decode cX6_readRule 8 = .ok (.getfield 27, 3) := by decide +kernel
theorem dX6_readRule_11 : decode cX6_readRule 11 = .ok (.aload_n 0, 1) := by decide +kernel
theorem dX6_readRule_12 : decode cX6_readRule 12 = .ok (.iconst 0, 1) := by decide +kernel
theorem dX6_readRule_13 : decode cX6_readRule 13 = .ok (.iconst 3, 1) := by decide +kernel
theorem dX6_readRule_14 : decode cX6_readRule 14 = .ok (.invokevirtual 98, 3) := by decide +kernel
theorem dX6_readRule_17 : decode cX6_readRule 17 = .ok (.putfield 102, 3) := by decide +kernel
theorem dX6_readRule_20 : decode cX6_readRule 20 = .ok (.aload_n 0, 1) := by decide +kernel
theorem dX6_readRule_21 : decode cX6_readRule 21 = .ok (.getfield 27, 3) := by decide +kernel
theorem dX6_readRule_24 : decode cX6_readRule 24 = .ok (.getfield 102, 3) := by decide +kernel
theorem dX6_readRule_27 : decode cX6_readRule 27 = .ok (.iconst (-1), 1) := by decide +kernel
theorem dX6_readRule_28 : decode cX6_readRule 28 = .ok (.if_icmp .eq 7, 3) := by decide +kernel
theorem dX6_readRule_31 : decode cX6_readRule 31 = .ok (.iconst 1, 1) := by decide +kernel
theorem dX6_readRule_32 : decode cX6_readRule 32 = .ok (.goto 4, 3) := by decide +kernel
theorem dX6_readRule_35 : decode cX6_readRule 35 = .ok (.iconst 0, 1) := by decide +kernel
theorem dX6_readRule_36 : decode cX6_readRule 36 = .ok (.ireturn, 1) := by decide +kernel
theorem dX6_readBudget_0 : decode cX6_readBudget 0 = .ok (.aload_n 0, 1) := by decide +kernel
theorem dX6_readBudget_1 : decode cX6_readBudget 1 = .ok (.getfield 12, 3) := by decide +kernel
theorem dX6_readBudget_4 : decode cX6_readBudget 4 = .ok (.invokevirtual 92, 3) := by decide +kernel
theorem dX6_readBudget_7 : decode cX6_readBudget 7 = .ok (.aload_n 0, 1) := by decide +kernel
theorem dX6_readBudget_8 : decode cX6_readBudget 8 = .ok (.getfield 27, 3) := by decide +kernel
theorem dX6_readBudget_11 : decode cX6_readBudget 11 = .ok (.aload_n 0, 1) := by decide +kernel
theorem dX6_readBudget_12 : decode cX6_readBudget 12 = .ok (.iconst 1, 1) := by decide +kernel
theorem dX6_readBudget_13 : decode cX6_readBudget 13 = .ok (.sipush 999, 3) := by decide +kernel
theorem dX6_readBudget_16 : decode cX6_readBudget 16 = .ok (.invokevirtual 98, 3) := by decide +kernel
theorem dX6_readBudget_19 : decode cX6_readBudget 19 = .ok (.putfield 105, 3) := by decide +kernel
theorem dX6_readBudget_22 : decode cX6_readBudget 22 = .ok (.aload_n 0, 1) := by decide +kernel
theorem dX6_readBudget_23 : decode cX6_readBudget 23 = .ok (.getfield 27, 3) := by decide +kernel
theorem dX6_readBudget_26 : decode cX6_readBudget 26 = .ok (.getfield 105, 3) := by decide +kernel
theorem dX6_readBudget_29 : decode cX6_readBudget 29 = .ok (.iconst (-1), 1) := by decide +kernel
theorem dX6_readBudget_30 : decode cX6_readBudget 30 = .ok (.if_icmp .eq 7, 3) := by decide +kernel
theorem dX6_readBudget_33 : decode cX6_readBudget 33 = .ok (.iconst 1, 1) := by decide +kernel
theorem dX6_readBudget_34 : decode cX6_readBudget 34 = .ok (.goto 4, 3) := by decide +kernel
theorem dX6_readBudget_37 : decode cX6_readBudget 37 = .ok (.iconst 0, 1) := by decide +kernel
theorem dX6_readBudget_38 : decode cX6_readBudget 38 = .ok (.ireturn, 1) := by decide +kernel
theorem dX6_readKind_0 : decode cX6_readKind 0 = .ok (.aload_n 0, 1) := by decide +kernel
theorem dX6_readKind_1 : decode cX6_readKind 1 = .ok (.getfield 27, 3) := by decide +kernel
theorem dX6_readKind_4 : decode cX6_readKind 4 = .ok (.getfield 79, 3) := by decide +kernel
theorem dX6_readKind_7 : decode cX6_readKind 7 = .ok (.ifCond .le 8, 3) := by decide +kernel
theorem dX6_readKind_10 : decode cX6_readKind 10 = .ok (.aload_n 0, 1) := by decide +kernel
theorem dX6_readKind_11 : decode cX6_readKind 11 = .ok (.invokevirtual 65, 3) := by decide +kernel
theorem dX6_readKind_14 : decode cX6_readKind 14 = .ok (.ireturn, 1) := by decide +kernel
theorem dX6_readKind_15 : decode cX6_readKind 15 = .ok (.aload_n 0, 1) := by decide +kernel
theorem dX6_readKind_16 : decode cX6_readKind 16 = .ok (.getfield 27, 3) := by decide +kernel
theorem dX6_readKind_19 : decode cX6_readKind 19 = .ok (.getfield 108, 3) := by decide +kernel
theorem dX6_readKind_22 : decode cX6_readKind 22 = .ok (.getfield 112, 3) := by decide +kernel
theorem dX6_readKind_25 : decode cX6_readKind 25 = .ok (.iconst 4, 1) := by decide +kernel
theorem dX6_readKind_26 : decode cX6_readKind 26 = .ok (.if_icmp .lt 17, 3) := by decide +kernel
theorem dX6_readKind_29 : decode cX6_readKind 29 = .ok (.aload_n 0, 1) := by decide +kernel
theorem dX6_readKind_30 : decode cX6_readKind 30 = .ok (.bipush 6, 2) := by decide +kernel
theorem dX6_readKind_32 : decode cX6_readKind 32 = .ok (.aload_n 0, 1) := by decide +kernel
theorem dX6_readKind_33 : decode cX6_readKind 33 = .ok (.getfield 12, 3) := by decide +kernel
theorem dX6_readKind_36 : decode cX6_readKind 36 = .ok (.getfield 72, 3) := by decide +kernel
theorem dX6_readKind_39 : decode cX6_readKind 39 = .ok (.invokevirtual 75, 3) := by decide +kernel
theorem dX6_readKind_42 : decode cX6_readKind 42 = .ok (.ireturn, 1) := by decide +kernel
theorem dX6_readKind_43 : decode cX6_readKind 43 = .ok (.aload_n 0, 1) := by decide +kernel
theorem dX6_readKind_44 : decode cX6_readKind 44 = .ok (.getfield 12, 3) := by decide +kernel
theorem dX6_readKind_47 : decode cX6_readKind 47 = .ok (.invokevirtual 92, 3) := by decide +kernel
theorem dX6_readKind_50 : decode cX6_readKind 50 = .ok (.aload_n 0, 1) := by decide +kernel
theorem dX6_readKind_51 : decode cX6_readKind 51 = .ok (.invokevirtual 116, 3) := by decide +kernel
theorem dX6_readKind_54 : decode cX6_readKind 54 = .ok (.ifCond .ne 5, 3) := by decide +kernel
theorem dX6_readKind_57 : decode cX6_readKind 57 = .ok (.iconst 0, 1) := by decide +kernel
theorem dX6_readKind_58 : decode cX6_readKind 58 = .ok (.ireturn, 1) := by decide +kernel
theorem dX6_readKind_59 : decode cX6_readKind 59 = .ok (.aload_n 0, 1) := by decide +kernel
theorem dX6_readKind_60 : decode cX6_readKind 60 = .ok (.getfield 27, 3) := by decide +kernel
theorem dX6_readKind_63 : decode cX6_readKind 63 = .ok (.getfield 108, 3) := by decide +kernel
theorem dX6_readKind_66 : decode cX6_readKind 66 = .ok (.aload_n 0, 1) := by decide +kernel
theorem dX6_readKind_67 : decode cX6_readKind 67 = .ok (.getfield 12, 3) := by decide +kernel
theorem dX6_readKind_70 : decode cX6_readKind 70 = .ok (.getfield 95, 3) := by decide +kernel
theorem dX6_readKind_73 : decode cX6_readKind 73 = .ok (.invokevirtual 119, 3) := by decide +kernel
theorem dX6_readKind_76 : decode cX6_readKind 76 = .ok (.aload_n 0, 1) := by decide +kernel
theorem dX6_readKind_77 : decode cX6_readKind 77 = .ok (.getfield 12, 3) := by decide +kernel
theorem dX6_readKind_80 : decode cX6_readKind 80 = .ok (.invokevirtual 92, 3) := by decide +kernel
theorem dX6_readKind_83 : decode cX6_readKind 83 = .ok (.iconst 1, 1) := by decide +kernel
theorem dX6_readKind_84 : decode cX6_readKind 84 = .ok (.ireturn, 1) := by decide +kernel
theorem dX6_isNewName_0 : decode cX6_isNewName 0 = .ok (.aload_n 0, 1) := by decide +kernel
theorem dX6_isNewName_1 : decode cX6_isNewName 1 = .ok (.getfield 12, 3) := by decide +kernel
theorem dX6_isNewName_4 : decode cX6_isNewName 4 = .ok (.invokevirtual 123, 3) := by decide +kernel
theorem dX6_isNewName_7 : decode cX6_isNewName 7 = .ok (.ifCond .ne 8, 3) := by decide +kernel
theorem dX6_isNewName_10 : decode cX6_isNewName 10 = .ok (.aload_n 0, 1) := by decide +kernel
theorem dX6_isNewName_11 : decode cX6_isNewName 11 = .ok (.invokevirtual 65, 3) := by decide +kernel
theorem dX6_isNewName_14 : decode cX6_isNewName 14 = .ok (.ireturn, 1) := by decide +kernel
theorem dX6_isNewName_15 : decode cX6_isNewName 15 = .ok (.aload_n 0, 1) := by decide +kernel
theorem dX6_isNewName_16 : decode cX6_isNewName 16 = .ok (.getfield 27, 3) := by decide +kernel
theorem dX6_isNewName_19 : decode cX6_isNewName 19 = .ok (.getfield 108, 3) := by decide +kernel
theorem dX6_isNewName_22 : decode cX6_isNewName 22 = .ok (.astore_n 1, 1) := by decide +kernel
theorem dX6_isNewName_23 : decode cX6_isNewName 23 = .ok (.aload_n 1, 1) := by decide +kernel
theorem dX6_isNewName_24 : decode cX6_isNewName 24 = .ok (.aload_n 0, 1) := by decide +kernel
theorem dX6_isNewName_25 : decode cX6_isNewName 25 = .ok (.getfield 12, 3) := by decide +kernel
theorem dX6_isNewName_28 : decode cX6_isNewName 28 = .ok (.getfield 95, 3) := by decide +kernel
theorem dX6_isNewName_31 : decode cX6_isNewName 31 = .ok (.invokevirtual 126, 3) := by decide +kernel
theorem dX6_isNewName_34 : decode cX6_isNewName 34 = .ok (.iconst (-1), 1) := by decide +kernel
theorem dX6_isNewName_35 : decode cX6_isNewName 35 = .ok (.if_icmp .ne 18, 3) := by decide +kernel
theorem dX6_isNewName_38 : decode cX6_isNewName 38 = .ok (.aload_n 1, 1) := by decide +kernel
theorem dX6_isNewName_39 : decode cX6_isNewName 39 = .ok (.aload_n 0, 1) := by decide +kernel
theorem dX6_isNewName_40 : decode cX6_isNewName 40 = .ok (.getfield 12, 3) := by decide +kernel
theorem dX6_isNewName_43 : decode cX6_isNewName 43 = .ok (.getfield 95, 3) := by decide +kernel
theorem dX6_isNewName_46 : decode cX6_isNewName 46 = .ok (.invokevirtual 130, 3) := by decide +kernel
theorem dX6_isNewName_49 : decode cX6_isNewName 49 = .ok (.iconst (-1), 1) := by decide +kernel
theorem dX6_isNewName_50 : decode cX6_isNewName 50 = .ok (.if_icmp .eq 16, 3) := by decide +kernel
theorem dX6_isNewName_53 : decode cX6_isNewName 53 = .ok (.aload_n 0, 1) := by decide +kernel
theorem dX6_isNewName_54 : decode cX6_isNewName 54 = .ok (.iconst 2, 1) := by decide +kernel
theorem dX6_isNewName_55 : decode cX6_isNewName 55 = .ok (.aload_n 0, 1) := by decide +kernel
theorem dX6_isNewName_56 : decode cX6_isNewName 56 = .ok (.getfield 12, 3) := by decide +kernel
theorem dX6_isNewName_59 : decode cX6_isNewName 59 = .ok (.getfield 72, 3) := by decide +kernel
theorem dX6_isNewName_62 : decode cX6_isNewName 62 = .ok (.invokevirtual 75, 3) := by decide +kernel
theorem dX6_isNewName_65 : decode cX6_isNewName 65 = .ok (.ireturn, 1) := by decide +kernel
theorem dX6_isNewName_66 : decode cX6_isNewName 66 = .ok (.iconst 1, 1) := by decide +kernel
theorem dX6_isNewName_67 : decode cX6_isNewName 67 = .ok (.ireturn, 1) := by decide +kernel
theorem dX6_readCon_0 : decode cX6_readCon 0 = .ok (.aload_n 0, 1) := by decide +kernel
theorem dX6_readCon_1 : decode cX6_readCon 1 = .ok (.getfield 27, 3) := by decide +kernel
theorem dX6_readCon_4 : decode cX6_readCon 4 = .ok (.getfield 108, 3) := by decide +kernel
theorem dX6_readCon_7 : decode cX6_readCon 7 = .ok (.astore_n 1, 1) := by decide +kernel
theorem dX6_readCon_8 : decode cX6_readCon 8 = .ok (.aload_n 1, 1) := by decide +kernel
theorem dX6_readCon_9 : decode cX6_readCon 9 = .ok (.getfield 112, 3) := by decide +kernel
theorem dX6_readCon_12 : decode cX6_readCon 12 = .ok (.iconst 1, 1) := by decide +kernel
theorem dX6_readCon_13 : decode cX6_readCon 13 = .ok (.isub, 1) := by decide +kernel
theorem dX6_readCon_14 : decode cX6_readCon 14 = .ok (.istore_n 2, 1) := by decide +kernel
theorem dX6_readCon_15 : decode cX6_readCon 15 = .ok (.aload_n 0, 1) := by decide +kernel
theorem dX6_readCon_16 : decode cX6_readCon 16 = .ok (.getfield 27, 3) := by decide +kernel
theorem dX6_readCon_19 : decode cX6_readCon 19 = .ok (.getfield 79, 3) := by decide +kernel
theorem dX6_readCon_22 : decode cX6_readCon 22 = .ok (.ifCond .gt 7, 3) := by decide +kernel
theorem dX6_readCon_25 : decode cX6_readCon 25 = .ok (.iload_n 2, 1) := by decide +kernel
theorem dX6_readCon_26 : decode cX6_readCon 26 = .ok (.ifCond .ge 8, 3) := by decide +kernel
theorem dX6_readCon_29 : decode cX6_readCon 29 = .ok (.aload_n 0, 1) := by decide +kernel
theorem dX6_readCon_30 : decode cX6_readCon 30 = .ok (.invokevirtual 65, 3) := by decide +kernel
theorem dX6_readCon_33 : decode cX6_readCon 33 = .ok (.ireturn, 1) := by decide +kernel
theorem dX6_readCon_34 : decode cX6_readCon 34 = .ok (.aload_n 1, 1) := by decide +kernel
theorem dX6_readCon_35 : decode cX6_readCon 35 = .ok (.iload_n 2, 1) := by decide +kernel
theorem dX6_readCon_36 : decode cX6_readCon 36 = .ok (.invokevirtual 133, 3) := by decide +kernel
theorem dX6_readCon_39 : decode cX6_readCon 39 = .ok (.bipush 6, 2) := by decide +kernel
theorem dX6_readCon_41 : decode cX6_readCon 41 = .ok (.if_icmp .lt 17, 3) := by decide +kernel
theorem dX6_readCon_44 : decode cX6_readCon 44 = .ok (.aload_n 0, 1) := by decide +kernel
theorem dX6_readCon_45 : decode cX6_readCon 45 = .ok (.bipush 6, 2) := by decide +kernel
theorem dX6_readCon_47 : decode cX6_readCon 47 = .ok (.aload_n 0, 1) := by decide +kernel
theorem dX6_readCon_48 : decode cX6_readCon 48 = .ok (.getfield 12, 3) := by decide +kernel
theorem dX6_readCon_51 : decode cX6_readCon 51 = .ok (.getfield 72, 3) := by decide +kernel
theorem dX6_readCon_54 : decode cX6_readCon 54 = .ok (.invokevirtual 75, 3) := by decide +kernel
theorem dX6_readCon_57 : decode cX6_readCon 57 = .ok (.ireturn, 1) := by decide +kernel
theorem dX6_readCon_58 : decode cX6_readCon 58 = .ok (.aload_n 0, 1) := by decide +kernel
theorem dX6_readCon_59 : decode cX6_readCon 59 = .ok (.getfield 12, 3) := by decide +kernel
theorem dX6_readCon_62 : decode cX6_readCon 62 = .ok (.invokevirtual 92, 3) := by decide +kernel
theorem dX6_readCon_65 : decode cX6_readCon 65 = .ok (.aload_n 0, 1) := by decide +kernel
theorem dX6_readCon_66 : decode cX6_readCon 66 = .ok (.invokevirtual 116, 3) := by decide +kernel
theorem dX6_readCon_69 : decode cX6_readCon 69 = .ok (.ifCond .ne 5, 3) := by decide +kernel
theorem dX6_readCon_72 : decode cX6_readCon 72 = .ok (.iconst 0, 1) := by decide +kernel
theorem dX6_readCon_73 : decode cX6_readCon 73 = .ok (.ireturn, 1) := by decide +kernel
theorem dX6_readCon_74 : decode cX6_readCon 74 = .ok (.aload_n 0, 1) := by decide +kernel
theorem dX6_readCon_75 : decode cX6_readCon 75 = .ok (.getfield 12, 3) := by decide +kernel
theorem dX6_readCon_78 : decode cX6_readCon 78 = .ok (.getfield 95, 3) := by decide +kernel
theorem dX6_readCon_81 : decode cX6_readCon 81 = .ok (.istore_n 3, 1) := by decide +kernel
theorem dX6_readCon_82 : decode cX6_readCon 82 = .ok (.iconst 0, 1) := by decide +kernel
theorem dX6_readCon_83 : decode cX6_readCon 83 = .ok (.istore 4, 2) := by decide +kernel
theorem dX6_readCon_85 : decode cX6_readCon 85 = .ok (.iconst (-1), 1) := by decide +kernel
theorem dX6_readCon_86 : decode cX6_readCon 86 = .ok (.istore 5, 2) := by decide +kernel
theorem dX6_readCon_88 : decode cX6_readCon 88 = .ok (.iconst (-1), 1) := by decide +kernel
theorem dX6_readCon_89 : decode cX6_readCon 89 = .ok (.istore 6, 2) := by decide +kernel
theorem dX6_readCon_91 : decode cX6_readCon 91 = .ok (.iconst 1, 1) := by decide +kernel
theorem dX6_readCon_92 : decode cX6_readCon 92 = .ok (.istore 7, 2) := by decide +kernel
theorem dX6_readCon_94 : decode cX6_readCon 94 = .ok (.aload_n 0, 1) := by decide +kernel
theorem dX6_readCon_95 : decode cX6_readCon 95 = .ok (.getfield 12, 3) := by decide +kernel
theorem dX6_readCon_98 : decode cX6_readCon 98 = .ok (.invokevirtual 92, 3) := by decide +kernel
theorem dX6_readCon_101 : decode cX6_readCon 101 = .ok (.aload_n 0, 1) := by decide +kernel
theorem dX6_readCon_102 : decode cX6_readCon 102 = .ok (.invokevirtual 136, 3) := by decide +kernel
theorem dX6_readCon_105 : decode cX6_readCon 105 = .ok (.ifCond .eq 123, 3) := by decide +kernel
theorem dX6_readCon_108 : decode cX6_readCon 108 = .ok (.iload 4, 2) := by decide +kernel
theorem dX6_readCon_110 : decode cX6_readCon 110 = .ok (.iconst 2, 1) := by decide +kernel
theorem dX6_readCon_111 : decode cX6_readCon 111 = .ok (.if_icmp .gt 117, 3) := by decide +kernel
theorem dX6_readCon_114 : decode cX6_readCon 114 = .ok (.iload 4, 2) := by decide +kernel
theorem dX6_readCon_116 : decode cX6_readCon 116 = .ok (.iconst 2, 1) := by decide +kernel
theorem dX6_readCon_117 : decode cX6_readCon 117 = .ok (.if_icmp .ne 17, 3) := by decide +kernel
theorem dX6_readCon_120 : decode cX6_readCon 120 = .ok (.aload_n 0, 1) := by decide +kernel
theorem dX6_readCon_121 : decode cX6_readCon 121 = .ok (.bipush 6, 2) := by decide +kernel
theorem dX6_readCon_123 : decode cX6_readCon 123 = .ok (.aload_n 0, 1) := by decide +kernel
theorem dX6_readCon_124 : decode cX6_readCon 124 = .ok (.getfield 12, 3) := by decide +kernel
theorem dX6_readCon_127 : decode cX6_readCon 127 = .ok (.getfield 72, 3) := by decide +kernel
theorem dX6_readCon_130 : decode cX6_readCon 130 = .ok (.invokevirtual 75, 3) := by decide +kernel
theorem dX6_readCon_133 : decode cX6_readCon 133 = .ok (.ireturn, 1) := by decide +kernel
theorem dX6_readCon_134 : decode cX6_readCon 134 = .ok (.aload_n 0, 1) := by decide +kernel
theorem dX6_readCon_135 : decode cX6_readCon 135 = .ok (.iload_n 2, 1) := by decide +kernel
theorem dX6_readCon_136 : decode cX6_readCon 136 = .ok (.invokevirtual 139, 3) := by decide +kernel
theorem dX6_readCon_139 : decode cX6_readCon 139 = .ok (.ifCond .ne 16, 3) := by decide +kernel
theorem dX6_readCon_142 : decode cX6_readCon 142 = .ok (.aload_n 0, 1) := by decide +kernel
theorem dX6_readCon_143 : decode cX6_readCon 143 = .ok (.iconst 3, 1) := by decide +kernel
theorem dX6_readCon_144 : decode cX6_readCon 144 = .ok (.aload_n 0, 1) := by decide +kernel
theorem dX6_readCon_145 : decode cX6_readCon 145 = .ok (.getfield 12, 3) := by decide +kernel
theorem dX6_readCon_148 : decode cX6_readCon 148 = .ok (.getfield 72, 3) := by decide +kernel
theorem dX6_readCon_151 : decode cX6_readCon 151 = .ok (.invokevirtual 75, 3) := by decide +kernel
theorem dX6_readCon_154 : decode cX6_readCon 154 = .ok (.ireturn, 1) := by decide +kernel
theorem dX6_readCon_155 : decode cX6_readCon 155 = .ok (.aload_n 0, 1) := by decide +kernel
theorem dX6_readCon_156 : decode cX6_readCon 156 = .ok (.invokevirtual 142, 3) := by decide +kernel
theorem dX6_readCon_159 : decode cX6_readCon 159 = .ok (.istore 8, 2) := by decide +kernel
theorem dX6_readCon_161 : decode cX6_readCon 161 = .ok (.iload 7, 2) := by decide +kernel
theorem dX6_readCon_163 : decode cX6_readCon 163 = .ok (.aload_n 1, 1) := by decide +kernel
theorem dX6_readCon_164 : decode cX6_readCon 164 = .ok (.iload 8, 2) := by decide +kernel
theorem dX6_readCon_166 : decode cX6_readCon 166 = .ok (.invokevirtual 146, 3) := by decide +kernel
theorem dX6_readCon_169 : decode cX6_readCon 169 = .ok (.imul, 1) := by decide +kernel
theorem dX6_readCon_170 : decode cX6_readCon 170 = .ok (.istore 7, 2) := by decide +kernel
theorem dX6_readCon_172 : decode cX6_readCon 172 = .ok (.aload_n 1, 1) := by decide +kernel
theorem dX6_readCon_173 : decode cX6_readCon 173 = .ok (.iload_n 2, 1) := by decide +kernel
theorem dX6_readCon_174 : decode cX6_readCon 174 = .ok (.invokevirtual 146, 3) := by decide +kernel
theorem dX6_readCon_177 : decode cX6_readCon 177 = .ok (.iload 7, 2) := by decide +kernel
theorem dX6_readCon_179 : decode cX6_readCon 179 = .ok (.iadd, 1) := by decide +kernel
theorem dX6_readCon_180 : decode cX6_readCon 180 = .ok (.sipush 2000, 3) := by decide +kernel
theorem dX6_readCon_183 : decode cX6_readCon 183 = .ok (.if_icmp .le 16, 3) := by decide +kernel
theorem dX6_readCon_186 : decode cX6_readCon 186 = .ok (.aload_n 0, 1) := by decide +kernel
theorem dX6_readCon_187 : decode cX6_readCon 187 = .ok (.iconst 4, 1) := by decide +kernel
theorem dX6_readCon_188 : decode cX6_readCon 188 = .ok (.aload_n 0, 1) := by decide +kernel
theorem dX6_readCon_189 : decode cX6_readCon 189 = .ok (.getfield 12, 3) := by decide +kernel
theorem dX6_readCon_192 : decode cX6_readCon 192 = .ok (.getfield 72, 3) := by decide +kernel
theorem dX6_readCon_195 : decode cX6_readCon 195 = .ok (.invokevirtual 75, 3) := by decide +kernel
theorem dX6_readCon_198 : decode cX6_readCon 198 = .ok (.ireturn, 1) := by decide +kernel
theorem dX6_readCon_199 : decode cX6_readCon 199 = .ok (.iload 4, 2) := by decide +kernel
theorem dX6_readCon_201 : decode cX6_readCon 201 = .ok (.ifCond .ne 10, 3) := by decide +kernel
theorem dX6_readCon_204 : decode cX6_readCon 204 = .ok (.iload 8, 2) := by decide +kernel
theorem dX6_readCon_206 : decode cX6_readCon 206 = .ok (.istore 5, 2) := by decide +kernel
theorem dX6_readCon_208 : decode cX6_readCon 208 = .ok (.goto 7, 3) := by decide +kernel
theorem dX6_readCon_211 : decode cX6_readCon 211 = .ok (.iload 8, 2) := by decide +kernel
theorem dX6_readCon_213 : decode cX6_readCon 213 = .ok (.istore 6, 2) := by decide +kernel
theorem dX6_readCon_215 : decode cX6_readCon 215 = .ok (.iinc 4 1, 3) := by decide +kernel
theorem dX6_readCon_218 : decode cX6_readCon 218 = .ok (.aload_n 0, 1) := by decide +kernel
theorem dX6_readCon_219 : decode cX6_readCon 219 = .ok (.getfield 12, 3) := by decide +kernel
theorem dX6_readCon_222 : decode cX6_readCon 222 = .ok (.invokevirtual 92, 3) := by decide +kernel
theorem dX6_readCon_225 : decode cX6_readCon 225 = .ok (.goto (-124), 3) := by decide +kernel
theorem dX6_readCon_228 : decode cX6_readCon 228 = .ok (.aload_n 1, 1) := by decide +kernel
theorem dX6_readCon_229 : decode cX6_readCon 229 = .ok (.iload_n 3, 1) := by decide +kernel
theorem dX6_readCon_230 : decode cX6_readCon 230 = .ok (.iload 4, 2) := by decide +kernel
theorem dX6_readCon_232 : decode cX6_readCon 232 = .ok (.iload 5, 2) := by decide +kernel
theorem dX6_readCon_234 : decode cX6_readCon 234 = .ok (.iload 6, 2) := by decide +kernel
theorem dX6_readCon_236 : decode cX6_readCon 236 = .ok (.iload 7, 2) := by decide +kernel
theorem dX6_readCon_238 : decode cX6_readCon 238 = .ok (.invokevirtual 149, 3) := by decide +kernel
theorem dX6_readCon_241 : decode cX6_readCon 241 = .ok (.iconst 1, 1) := by decide +kernel
theorem dX6_readCon_242 : decode cX6_readCon 242 = .ok (.ireturn, 1) := by decide +kernel
theorem dX6_isKindWord_0 : decode cX6_isKindWord 0 = .ok (.aload_n 0, 1) := by decide +kernel
theorem dX6_isKindWord_1 : decode cX6_isKindWord 1 = .ok (.getfield 12, 3) := by decide +kernel
theorem dX6_isKindWord_4 : decode cX6_isKindWord 4 = .ok (.invokevirtual 123, 3) := by decide +kernel
theorem dX6_isKindWord_7 : decode cX6_isKindWord 7 = .ok (.ifCond .ne 15, 3) := by decide +kernel
theorem dX6_isKindWord_10 : decode cX6_isKindWord 10 = .ok (.aload_n 0, 1) := by decide +kernel
theorem dX6_isKindWord_11 : decode cX6_isKindWord 11 = .ok (.getfield 12, 3) := by decide +kernel
theorem dX6_isKindWord_14 : decode cX6_isKindWord 14 = .ok (.getfield 43, 3) := by decide +kernel
theorem dX6_isKindWord_17 : decode cX6_isKindWord 17 = .ok (.bipush 7, 2) := by decide +kernel
theorem dX6_isKindWord_19 : decode cX6_isKindWord 19 = .ok (.if_icmp .ne 7, 3) := by decide +kernel
theorem dX6_isKindWord_22 : decode cX6_isKindWord 22 = .ok (.iconst 1, 1) := by decide +kernel
theorem dX6_isKindWord_23 : decode cX6_isKindWord 23 = .ok (.goto 4, 3) := by decide +kernel
theorem dX6_isKindWord_26 : decode cX6_isKindWord 26 = .ok (.iconst 0, 1) := by decide +kernel
theorem dX6_isKindWord_27 : decode cX6_isKindWord 27 = .ok (.ireturn, 1) := by decide +kernel
theorem dX6_kindHere_0 : decode cX6_kindHere 0 = .ok (.aload_n 0, 1) := by decide +kernel
theorem dX6_kindHere_1 : decode cX6_kindHere 1 = .ok (.getfield 12, 3) := by decide +kernel
theorem dX6_kindHere_4 : decode cX6_kindHere 4 = .ok (.getfield 43, 3) := by decide +kernel
theorem dX6_kindHere_7 : decode cX6_kindHere 7 = .ok (.bipush 7, 2) := by decide +kernel
theorem dX6_kindHere_9 : decode cX6_kindHere 9 = .ok (.if_icmp .ne 7, 3) := by decide +kernel
theorem dX6_kindHere_12 : decode cX6_kindHere 12 = .ok (.iconst (-1), 1) := by decide +kernel
theorem dX6_kindHere_13 : decode cX6_kindHere 13 = .ok (.goto 20, 3) := by decide +kernel
theorem dX6_kindHere_16 : decode cX6_kindHere 16 = .ok (.aload_n 0, 1) := by decide +kernel
theorem dX6_kindHere_17 : decode cX6_kindHere 17 = .ok (.getfield 27, 3) := by decide +kernel
theorem dX6_kindHere_20 : decode cX6_kindHere 20 = .ok (.getfield 108, 3) := by decide +kernel
theorem dX6_kindHere_23 : decode cX6_kindHere 23 = .ok (.aload_n 0, 1) := by decide +kernel
theorem dX6_kindHere_24 : decode cX6_kindHere 24 = .ok (.getfield 12, 3) := by decide +kernel
theorem dX6_kindHere_27 : decode cX6_kindHere 27 = .ok (.getfield 95, 3) := by decide +kernel
theorem dX6_kindHere_30 : decode cX6_kindHere 30 = .ok (.invokevirtual 126, 3) := by decide +kernel
theorem dX6_kindHere_33 : decode cX6_kindHere 33 = .ok (.ireturn, 1) := by decide +kernel
theorem dX6_isKindHere_0 : decode cX6_isKindHere 0 = .ok (.aload_n 0, 1) := by decide +kernel
theorem dX6_isKindHere_1 : decode cX6_isKindHere 1 = .ok (.getfield 12, 3) := by decide +kernel
theorem dX6_isKindHere_4 : decode cX6_isKindHere 4 = .ok (.getfield 43, 3) := by decide +kernel
theorem dX6_isKindHere_7 : decode cX6_isKindHere 7 = .ok (.bipush 7, 2) := by decide +kernel
theorem dX6_isKindHere_9 : decode cX6_isKindHere 9 = .ok (.if_icmp .ne 5, 3) := by decide +kernel
theorem dX6_isKindHere_12 : decode cX6_isKindHere 12 = .ok (.iconst 1, 1) := by decide +kernel
theorem dX6_isKindHere_13 : decode cX6_isKindHere 13 = .ok (.ireturn, 1) := by decide +kernel
theorem dX6_isKindHere_14 : decode cX6_isKindHere 14 = .ok (.aload_n 0, 1) := by decide +kernel
theorem dX6_isKindHere_15 : decode cX6_isKindHere 15 = .ok (.invokevirtual 142, 3) := by decide +kernel
theorem dX6_isKindHere_18 : decode cX6_isKindHere 18 = .ok (.istore_n 2, 1) := by decide +kernel
theorem dX6_isKindHere_19 : decode cX6_isKindHere 19 = .ok (.iload_n 2, 1) := by decide +kernel
theorem dX6_isKindHere_20 : decode cX6_isKindHere 20 = .ok (.iconst (-1), 1) := by decide +kernel
theorem dX6_isKindHere_21 : decode cX6_isKindHere 21 = .ok (.if_icmp .eq 26, 3) := by decide +kernel
theorem dX6_isKindHere_24 : decode cX6_isKindHere 24 = .ok (.iload_n 2, 1) := by decide +kernel
theorem dX6_isKindHere_25 : decode cX6_isKindHere 25 = .ok (.iload_n 1, 1) := by decide +kernel
theorem dX6_isKindHere_26 : decode cX6_isKindHere 26 = .ok (.if_icmp .eq 21, 3) := by decide +kernel
theorem dX6_isKindHere_29 : decode cX6_isKindHere 29 = .ok (.aload_n 0, 1) := by decide +kernel
theorem dX6_isKindHere_30 : decode cX6_isKindHere 30 = .ok (.getfield 27, 3) := by decide +kernel
theorem dX6_isKindHere_33 : decode cX6_isKindHere 33 = .ok (.getfield 108, 3) := by decide +kernel
theorem dX6_isKindHere_36 : decode cX6_isKindHere 36 = .ok (.iload_n 2, 1) := by decide +kernel
theorem dX6_isKindHere_37 : decode cX6_isKindHere 37 = .ok (.invokevirtual 133, 3) := by decide +kernel
theorem dX6_isKindHere_40 : decode cX6_isKindHere 40 = .ok (.ifCond .le 7, 3) := by decide +kernel
theorem dX6_isKindHere_43 : decode cX6_isKindHere 43 = .ok (.iconst 1, 1) := by decide +kernel
theorem dX6_isKindHere_44 : decode cX6_isKindHere 44 = .ok (.goto 4, 3) := by decide +kernel
theorem dX6_isKindHere_47 : decode cX6_isKindHere 47 = .ok (.iconst 0, 1) := by decide +kernel
theorem dX6_isKindHere_48 : decode cX6_isKindHere 48 = .ok (.ireturn, 1) := by decide +kernel
theorem dX6_readColumns_0 : decode cX6_readColumns 0 = .ok (.aload_n 0, 1) := by decide +kernel
theorem dX6_readColumns_1 : decode cX6_readColumns 1 = .ok (.getfield 27, 3) := by decide +kernel
theorem dX6_readColumns_4 : decode cX6_readColumns 4 = .ok (.getfield 79, 3) := by decide +kernel
theorem dX6_readColumns_7 : decode cX6_readColumns 7 = .ok (.ifCond .le 17, 3) := by decide +kernel
theorem dX6_readColumns_10 : decode cX6_readColumns 10 = .ok (.aload_n 0, 1) := by decide +kernel
theorem dX6_readColumns_11 : decode cX6_readColumns 11 = .ok (.bipush 6, 2) := by decide +kernel
theorem dX6_readColumns_13 : decode cX6_readColumns 13 = .ok (.aload_n 0, 1) := by decide +kernel
theorem dX6_readColumns_14 : decode cX6_readColumns 14 = .ok (.getfield 12, 3) := by decide +kernel
theorem dX6_readColumns_17 : decode cX6_readColumns 17 = .ok (.getfield 72, 3) := by decide +kernel
theorem dX6_readColumns_20 : decode cX6_readColumns 20 = .ok (.invokevirtual 75, 3) := by decide +kernel
theorem dX6_readColumns_23 : decode cX6_readColumns 23 = .ok (.ireturn, 1) := by decide +kernel
theorem dX6_readColumns_24 : decode cX6_readColumns 24 = .ok (.aload_n 0, 1) := by decide +kernel
theorem dX6_readColumns_25 : decode cX6_readColumns 25 = .ok (.getfield 12, 3) := by decide +kernel
theorem dX6_readColumns_28 : decode cX6_readColumns 28 = .ok (.invokevirtual 92, 3) := by decide +kernel
theorem dX6_readColumns_31 : decode cX6_readColumns 31 = .ok (.aload_n 0, 1) := by decide +kernel
theorem dX6_readColumns_32 : decode cX6_readColumns 32 = .ok (.invokevirtual 136, 3) := by decide +kernel
theorem dX6_readColumns_35 : decode cX6_readColumns 35 = .ok (.ifCond .ne 8, 3) := by decide +kernel
theorem dX6_readColumns_38 : decode cX6_readColumns 38 = .ok (.aload_n 0, 1) := by decide +kernel
theorem dX6_readColumns_39 : decode cX6_readColumns 39 = .ok (.invokevirtual 65, 3) := by decide +kernel
theorem dX6_readColumns_42 : decode cX6_readColumns 42 = .ok (.ireturn, 1) := by decide +kernel
theorem dX6_readColumns_43 : decode cX6_readColumns 43 = .ok (.iconst 1, 1) := by decide +kernel
theorem dX6_readColumns_44 : decode cX6_readColumns 44 = .ok (.istore_n 1, 1) := by decide +kernel
theorem dX6_readColumns_45 : decode cX6_readColumns 45 = .ok (.iconst 0, 1) := by decide +kernel
theorem dX6_readColumns_46 : decode cX6_readColumns 46 = .ok (.istore_n 2, 1) := by decide +kernel
theorem dX6_readColumns_47 : decode cX6_readColumns 47 = .ok (.iload_n 2, 1) := by decide +kernel
theorem dX6_readColumns_48 : decode cX6_readColumns 48 = .ok (.iconst 4, 1) := by decide +kernel
theorem dX6_readColumns_49 : decode cX6_readColumns 49 = .ok (.if_icmp .gt 110, 3) := by decide +kernel
theorem dX6_readColumns_52 : decode cX6_readColumns 52 = .ok (.aload_n 0, 1) := by decide +kernel
theorem dX6_readColumns_53 : decode cX6_readColumns 53 = .ok (.invokevirtual 136, 3) := by decide +kernel
theorem dX6_readColumns_56 : decode cX6_readColumns 56 = .ok (.ifCond .eq 103, 3) := by decide +kernel
theorem dX6_readColumns_59 : decode cX6_readColumns 59 = .ok (.iload_n 2, 1) := by decide +kernel
theorem dX6_readColumns_60 : decode cX6_readColumns 60 = .ok (.iconst 4, 1) := by decide +kernel
theorem dX6_readColumns_61 : decode cX6_readColumns 61 = .ok (.if_icmp .ne 17, 3) := by decide +kernel
theorem dX6_readColumns_64 : decode cX6_readColumns 64 = .ok (.aload_n 0, 1) := by decide +kernel
theorem dX6_readColumns_65 : decode cX6_readColumns 65 = .ok (.bipush 6, 2) := by decide +kernel
theorem dX6_readColumns_67 : decode cX6_readColumns 67 = .ok (.aload_n 0, 1) := by decide +kernel
theorem dX6_readColumns_68 : decode cX6_readColumns 68 = .ok (.getfield 12, 3) := by decide +kernel
theorem dX6_readColumns_71 : decode cX6_readColumns 71 = .ok (.getfield 72, 3) := by decide +kernel
theorem dX6_readColumns_74 : decode cX6_readColumns 74 = .ok (.invokevirtual 75, 3) := by decide +kernel
theorem dX6_readColumns_77 : decode cX6_readColumns 77 = .ok (.ireturn, 1) := by decide +kernel
theorem dX6_readColumns_78 : decode cX6_readColumns 78 = .ok (.aload_n 0, 1) := by decide +kernel
theorem dX6_readColumns_79 : decode cX6_readColumns 79 = .ok (.iconst (-1), 1) := by decide +kernel
theorem dX6_readColumns_80 : decode cX6_readColumns 80 = .ok (.invokevirtual 139, 3) := by decide +kernel
theorem dX6_readColumns_83 : decode cX6_readColumns 83 = .ok (.ifCond .ne 16, 3) := by decide +kernel
theorem dX6_readColumns_86 : decode cX6_readColumns 86 = .ok (.aload_n 0, 1) := by decide +kernel
theorem dX6_readColumns_87 : decode cX6_readColumns 87 = .ok (.iconst 3, 1) := by decide +kernel
theorem dX6_readColumns_88 : decode cX6_readColumns 88 = .ok (.aload_n 0, 1) := by decide +kernel
theorem dX6_readColumns_89 : decode cX6_readColumns 89 = .ok (.getfield 12, 3) := by decide +kernel
theorem dX6_readColumns_92 : decode cX6_readColumns 92 = .ok (.getfield 72, 3) := by decide +kernel
theorem dX6_readColumns_95 : decode cX6_readColumns 95 = .ok (.invokevirtual 75, 3) := by decide +kernel
theorem dX6_readColumns_98 : decode cX6_readColumns 98 = .ok (.ireturn, 1) := by decide +kernel
theorem dX6_readColumns_99 : decode cX6_readColumns 99 = .ok (.aload_n 0, 1) := by decide +kernel
theorem dX6_readColumns_100 : decode cX6_readColumns 100 = .ok (.invokevirtual 142, 3) := by decide +kernel
theorem dX6_readColumns_103 : decode cX6_readColumns 103 = .ok (.istore_n 3, 1) := by decide +kernel
theorem dX6_readColumns_104 : decode cX6_readColumns 104 = .ok (.iload_n 1, 1) := by decide +kernel
theorem dX6_readColumns_105 : decode cX6_readColumns 105 = .ok (.aload_n 0, 1) := by decide +kernel
theorem dX6_readColumns_106 : decode cX6_readColumns 106 = .ok (.getfield 27, 3) := by decide +kernel
theorem dX6_readColumns_109 : decode cX6_readColumns 109 = .ok (.getfield 108, 3) := by decide +kernel
theorem dX6_readColumns_112 : decode cX6_readColumns 112 = .ok (.iload_n 3, 1) := by decide +kernel
theorem dX6_readColumns_113 : decode cX6_readColumns 113 = .ok (.invokevirtual 146, 3) := by decide +kernel
theorem dX6_readColumns_116 : decode cX6_readColumns 116 = .ok (.imul, 1) := by decide +kernel
theorem dX6_readColumns_117 : decode cX6_readColumns 117 = .ok (.istore_n 1, 1) := by decide +kernel
theorem dX6_readColumns_118 : decode cX6_readColumns 118 = .ok (.iload_n 1, 1) := by decide +kernel
theorem dX6_readColumns_119 : decode cX6_readColumns 119 = .ok (.sipush 20000, 3) := by decide +kernel
theorem dX6_readColumns_122 : decode cX6_readColumns 122 = .ok (.if_icmp .le 16, 3) := by decide +kernel
theorem dX6_readColumns_125 : decode cX6_readColumns 125 = .ok (.aload_n 0, 1) := by decide +kernel
theorem dX6_readColumns_126 : decode cX6_readColumns 126 = .ok (.iconst 4, 1) := by decide +kernel
theorem dX6_readColumns_127 : decode cX6_readColumns 127 = .ok (.aload_n 0, 1) := by decide +kernel
theorem dX6_readColumns_128 : decode cX6_readColumns 128 = .ok (.getfield 12, 3) := by decide +kernel
theorem dX6_readColumns_131 : decode cX6_readColumns 131 = .ok (.getfield 72, 3) := by decide +kernel
theorem dX6_readColumns_134 : decode cX6_readColumns 134 = .ok (.invokevirtual 75, 3) := by decide +kernel
theorem dX6_readColumns_137 : decode cX6_readColumns 137 = .ok (.ireturn, 1) := by decide +kernel
theorem dX6_readColumns_138 : decode cX6_readColumns 138 = .ok (.aload_n 0, 1) := by decide +kernel
