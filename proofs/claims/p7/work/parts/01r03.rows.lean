section
theorem dX6_fail_11 : decode cX6_fail 11 = .ok (.ireturn, 1) := by decide +kernel
theorem dX6_failHere_0 : decode cX6_failHere 0 = .ok (.aload_n 0, 1) := by decide +kernel
theorem dX6_failHere_1 : decode cX6_failHere 1 = .ok (.iconst 1, 1) := by decide +kernel
theorem dX6_failHere_2 : decode cX6_failHere 2 = .ok (.putfield 82, 3) := by decide +kernel
theorem dX6_failHere_5 : decode cX6_failHere 5 = .ok (.aload_n 0, 1) := by decide +kernel
theorem dX6_failHere_6 : decode cX6_failHere 6 = .ok (.aload_n 0, 1) := by decide +kernel
theorem dX6_failHere_7 : decode cX6_failHere 7 = .ok (.getfield 12, 3) := by decide +kernel
theorem dX6_failHere_10 : decode cX6_failHere 10 = .ok (.getfield 40, 3) := by decide +kernel
theorem dX6_failHere_13 : decode cX6_failHere 13 = .ok (.iconst 4, 1) := by decide +kernel
theorem dX6_failHere_14 : decode cX6_failHere 14 = .ok (.if_icmp .ne 13, 3) := by decide +kernel
theorem dX6_failHere_17 : decode cX6_failHere 17 = .ok (.aload_n 0, 1) := by decide +kernel
theorem dX6_failHere_18 : decode cX6_failHere 18 = .ok (.getfield 12, 3) := by decide +kernel
theorem dX6_failHere_21 : decode cX6_failHere 21 = .ok (.getfield 86, 3) := by decide +kernel
theorem dX6_failHere_24 : decode cX6_failHere 24 = .ok (.goto 10, 3) := by decide +kernel
theorem dX6_failHere_27 : decode cX6_failHere 27 = .ok (.aload_n 0, 1) := by decide +kernel
theorem dX6_failHere_28 : decode cX6_failHere 28 = .ok (.getfield 12, 3) := by decide +kernel
theorem dX6_failHere_31 : decode cX6_failHere 31 = .ok (.getfield 72, 3) := by decide +kernel
theorem dX6_failHere_34 : decode cX6_failHere 34 = .ok (.putfield 23, 3) := by decide +kernel
theorem dX6_failHere_37 : decode cX6_failHere 37 = .ok (.iconst 0, 1) := by decide +kernel
theorem dX6_failHere_38 : decode cX6_failHere 38 = .ok (.ireturn, 1) := by decide +kernel
theorem dX6_readSign_0 : decode cX6_readSign 0 = .ok (.aload_n 0, 1) := by decide +kernel
theorem dX6_readSign_1 : decode cX6_readSign 1 = .ok (.getfield 12, 3) := by decide +kernel
theorem dX6_readSign_4 : decode cX6_readSign 4 = .ok (.iload_n 1, 1) := by decide +kernel
theorem dX6_readSign_5 : decode cX6_readSign 5 = .ok (.invokevirtual 89, 3) := by decide +kernel
theorem dX6_readSign_8 : decode cX6_readSign 8 = .ok (.ifCond .ne 8, 3) := by decide +kernel
theorem dX6_readSign_11 : decode cX6_readSign 11 = .ok (.aload_n 0, 1) := by decide +kernel
theorem dX6_readSign_12 : decode cX6_readSign 12 = .ok (.invokevirtual 65, 3) := by decide +kernel
theorem dX6_readSign_15 : decode cX6_readSign 15 = .ok (.ireturn, 1) := by decide +kernel
theorem dX6_readSign_16 : decode cX6_readSign 16 = .ok (.aload_n 0, 1) := by decide +kernel
theorem dX6_readSign_17 : decode cX6_readSign 17 = .ok (.getfield 12, 3) := by decide +kernel
theorem dX6_readSign_20 : decode cX6_readSign 20 = .ok (.invokevirtual 92, 3) := by decide +kernel
theorem dX6_readSign_23 : decode cX6_readSign 23 = .ok (.iconst 1, 1) := by decide +kernel
theorem dX6_readSign_24 : decode cX6_readSign 24 = .ok (.ireturn, 1) := by decide +kernel
theorem dX6_readNumber_0 : decode cX6_readNumber 0 = .ok (.aload_n 0, 1) := by decide +kernel
theorem dX6_readNumber_1 : decode cX6_readNumber 1 = .ok (.getfield 12, 3) := by decide +kernel
theorem dX6_readNumber_4 : decode cX6_readNumber 4 = .ok (.getfield 40, 3) := by decide +kernel
theorem dX6_readNumber_7 : decode cX6_readNumber 7 = .ok (.iconst 2, 1) := by decide +kernel
theorem dX6_readNumber_8 : decode cX6_readNumber 8 = .ok (.if_icmp .eq 10, 3) := by decide +kernel
theorem dX6_readNumber_11 : decode cX6_readNumber 11 = .ok (.aload_n 0, 1) := by decide +kernel
theorem dX6_readNumber_12 : decode cX6_readNumber 12 = .ok (.invokevirtual 65, 3) := by decide +kernel
theorem dX6_readNumber_15 : decode cX6_readNumber 15 = .ok (.pop, 1) := by decide +kernel
theorem dX6_readNumber_16 : decode cX6_readNumber 16 = .ok (.iconst (-1), 1) := by decide +kernel
theorem dX6_readNumber_17 : decode cX6_readNumber 17 = .ok (.ireturn, 1) := by decide +kernel
theorem dX6_readNumber_18 : decode cX6_readNumber 18 = .ok (.aload_n 0, 1) := by decide +kernel
theorem dX6_readNumber_19 : decode cX6_readNumber 19 = .ok (.getfield 12, 3) := by decide +kernel
theorem dX6_readNumber_22 : decode cX6_readNumber 22 = .ok (.getfield 95, 3) := by decide +kernel
theorem dX6_readNumber_25 : decode cX6_readNumber 25 = .ok (.istore_n 3, 1) := by decide +kernel
theorem dX6_readNumber_26 : decode cX6_readNumber 26 = .ok (.iload_n 3, 1) := by decide +kernel
theorem dX6_readNumber_27 : decode cX6_readNumber 27 = .ok (.iload_n 1, 1) := by decide +kernel
theorem dX6_readNumber_28 : decode cX6_readNumber 28 = .ok (.if_icmp .lt 8, 3) := by decide +kernel
theorem dX6_readNumber_31 : decode cX6_readNumber 31 = .ok (.iload_n 3, 1) := by decide +kernel
theorem dX6_readNumber_32 : decode cX6_readNumber 32 = .ok (.iload_n 2, 1) := by decide +kernel
theorem dX6_readNumber_33 : decode cX6_readNumber 33 = .ok (.if_icmp .le 18, 3) := by decide +kernel
theorem dX6_readNumber_36 : decode cX6_readNumber 36 = .ok (.aload_n 0, 1) := by decide +kernel
theorem dX6_readNumber_37 : decode cX6_readNumber 37 = .ok (.iconst 4, 1) := by decide +kernel
theorem dX6_readNumber_38 : decode cX6_readNumber 38 = .ok (.aload_n 0, 1) := by decide +kernel
theorem dX6_readNumber_39 : decode cX6_readNumber 39 = .ok (.getfield 12, 3) := by decide +kernel
theorem dX6_readNumber_42 : decode cX6_readNumber 42 = .ok (.getfield 72, 3) := by decide +kernel
theorem dX6_readNumber_45 : decode cX6_readNumber 45 = .ok (.invokevirtual 75, 3) := by decide +kernel
theorem dX6_readNumber_48 : decode cX6_readNumber 48 = .ok (.pop, 1) := by decide +kernel
theorem dX6_readNumber_49 : decode cX6_readNumber 49 = .ok (.iconst (-1), 1) := by decide +kernel
theorem dX6_readNumber_50 : decode cX6_readNumber 50 = .ok (.ireturn, 1) := by decide +kernel
theorem dX6_readNumber_51 : decode cX6_readNumber 51 = .ok (.aload_n 0, 1) := by decide +kernel
theorem dX6_readNumber_52 : decode cX6_readNumber 52 = .ok (.getfield 12, 3) := by decide +kernel
theorem dX6_readNumber_55 : decode cX6_readNumber 55 = .ok (.invokevirtual 92, 3) := by decide +kernel
theorem dX6_readNumber_58 : decode cX6_readNumber 58 = .ok (.iload_n 3, 1) := by decide +kernel
theorem dX6_readNumber_59 : decode cX6_readNumber 59 = .ok (.ireturn, 1) := by decide +kernel
theorem dX6_readRule_0 : decode cX6_readRule 0 = .ok (.aload_n 0, 1) := by decide +kernel
theorem dX6_readRule_1 : decode cX6_readRule 1 = .ok (.getfield 12, 3) := by decide +kernel
theorem dX6_readRule_4 : decode cX6_readRule 4 = .ok (.invokevirtual 92, 3) := by decide +kernel
theorem dX6_readRule_7 : decode cX6_readRule 7 = .ok (.aload_n 0, 1) := by decide +kernel
theorem dX6_readRule_8 : decode cX6_readRule 8 = .ok (.getfield 27, 3) := by decide +kernel
theorem dX6_readRule_11 : decode cX6_readRule 11 = .ok (.aload_n 0, 1) := by decide +kernel
theorem dX6_readRule_12 : decode cX6_readRule 12 = .ok (.iconst 0, 1) := by decide +kernel
theorem dX6_readRule_13 : decode cX6_readRule 13 = .ok (.iconst 3, 1) := by decide +kernel
theorem dX6_readRule_14 : decode cX6_readRule 14 = .ok (.invokevirtual 98, 3) := by decide +kernel
theorem dX6_readRule_17 : decode cX6_readRule 17 = .ok (.putfield 102, 3) := by decide +kernel
theorem dX6_readRule_20 : decode cX6_readRule 20 = .ok (.aload_n 0, 1) := by decide +kernel
theorem dX6_readRule_21 : decode cX6_readRule 21 = .ok (.getfield 27, 3) := by decide +kernel
theorem dX6_readRule_24 : decode cX6_readRule 24 = .ok (.getfield 102, 3) := by decide +kernel
theorem dX6_readRule_27 : decode cX6_readRule 27 = .ok (.iconst (-1), 1) := by decide +kernel
theorem dX6_readRule_28 : decode cX6_readRule 28 = .ok (.if_icmp .eq 7, 3) := by decide +kernel
theorem dX6_readRule_31 : decode cX6_readRule 31 = .ok (.iconst 1, 1) := by decide +kernel
theorem dX6_readRule_32 : decode cX6_readRule 32 = .ok (.goto 4, 3) := by decide +kernel
theorem dX6_readRule_35 : decode cX6_readRule 35 = .ok (.iconst 0, 1) := by decide +kernel
theorem dX6_readRule_36 : decode cX6_readRule 36 = .ok (.ireturn, 1) := by decide +kernel
theorem dX6_readBudget_0 : decode cX6_readBudget 0 = .ok (.aload_n 0, 1) := by decide +kernel
theorem dX6_readBudget_1 : decode cX6_readBudget 1 = .ok (.getfield 12, 3) := by decide +kernel
theorem dX6_readBudget_4 : decode cX6_readBudget 4 = .ok (.invokevirtual 92, 3) := by decide +kernel
theorem dX6_readBudget_7 : decode cX6_readBudget 7 = .ok (.aload_n 0, 1) := by decide +kernel
theorem dX6_readBudget_8 : decode cX6_readBudget 8 = .ok (.getfield 27, 3) := by decide +kernel
theorem dX6_readBudget_11 : decode cX6_readBudget 11 = .ok (.aload_n 0, 1) := by decide +kernel
theorem dX6_readBudget_12 : decode cX6_readBudget 12 = .ok (.iconst 1, 1) := by decide +kernel
theorem dX6_readBudget_13 : decode cX6_readBudget 13 = .ok (.sipush 999, 3) := by decide +kernel
theorem dX6_readBudget_16 : decode cX6_readBudget 16 = .ok (.invokevirtual 98, 3) := by decide +kernel
theorem dX6_readBudget_19 : decode cX6_readBudget 19 = .ok (.putfield 105, 3) := by decide +kernel
theorem dX6_readBudget_22 : decode cX6_readBudget 22 = .ok (.aload_n 0, 1) := by decide +kernel
theorem dX6_readBudget_23 : decode cX6_readBudget 23 = .ok (.getfield 27, 3) := by decide +kernel
theorem dX6_readBudget_26 : decode cX6_readBudget 26 = .ok (.getfield 105, 3) := by decide +kernel
theorem dX6_readBudget_29 : decode cX6_readBudget 29 = .ok (.iconst (-1), 1) := by decide +kernel
theorem dX6_readBudget_30 : decode cX6_readBudget 30 = .ok (.if_icmp .eq 7, 3) := by decide +kernel
theorem dX6_readBudget_33 : decode cX6_readBudget 33 = .ok (.iconst 1, 1) := by decide +kernel
theorem dX6_readBudget_34 : decode cX6_readBudget 34 = .ok (.goto 4, 3) := by decide +kernel
theorem dX6_readBudget_37 : decode cX6_readBudget 37 = .ok (.iconst 0, 1) := by decide +kernel
theorem dX6_readBudget_38 : decode cX6_readBudget 38 = .ok (.ireturn, 1) := by decide +kernel
theorem dX6_readKind_0 : decode cX6_readKind 0 = .ok (.aload_n 0, 1) := by decide +kernel
theorem dX6_readKind_1 : decode cX6_readKind 1 = .ok (.getfield 27, 3) := by decide +kernel
theorem dX6_readKind_4 : decode cX6_readKind 4 = .ok (.getfield 79, 3) := by decide +kernel
theorem dX6_readKind_7 : decode cX6_readKind 7 = .ok (.ifCond .le 8, 3) := by decide +kernel
theorem dX6_readKind_10 : decode cX6_readKind 10 = .ok (.aload_n 0, 1) := by decide +kernel
theorem dX6_readKind_11 : decode cX6_readKind 11 = .ok (.invokevirtual 65, 3) := by decide +kernel
theorem dX6_readKind_14 : decode cX6_readKind 14 = .ok (.ireturn, 1) := by decide +kernel
theorem dX6_readKind_15 : decode cX6_readKind 15 = .ok (.aload_n 0, 1) := by decide +kernel
theorem dX6_readKind_16 : decode cX6_readKind 16 = .ok (.getfield 27, 3) := by decide +kernel
theorem dX6_readKind_19 : decode cX6_readKind 19 = .ok (.getfield 108, 3) := by decide +kernel
theorem dX6_readKind_22 : decode cX6_readKind 22 = .ok (.getfield 112, 3) := by decide +kernel
theorem dX6_readKind_25 : decode cX6_readKind 25 = .ok (.iconst 4, 1) := by decide +kernel
theorem dX6_readKind_26 : decode cX6_readKind 26 = .ok (.if_icmp .lt 17, 3) := by decide +kernel
theorem dX6_readKind_29 : decode cX6_readKind 29 = .ok (.aload_n 0, 1) := by decide +kernel
theorem dX6_readKind_30 : decode cX6_readKind 30 = .ok (.bipush 6, 2) := by decide +kernel
theorem dX6_readKind_32 : decode cX6_readKind 32 = .ok (.aload_n 0, 1) := by decide +kernel
theorem dX6_readKind_33 : decode cX6_readKind 33 = .ok (.getfield 12, 3) := by decide +kernel
theorem dX6_readKind_36 : decode cX6_readKind 36 = .ok (.getfield 72, 3) := by decide +kernel
theorem dX6_readKind_39 : decode cX6_readKind 39 = .ok (.invokevirtual 75, 3) := by decide +kernel
theorem dX6_readKind_42 : decode cX6_readKind 42 = .ok (.ireturn, 1) := by decide +kernel
theorem dX6_readKind_43 : decode cX6_readKind 43 = .ok (.aload_n 0, 1) := by decide +kernel
theorem dX6_readKind_44 : decode cX6_readKind 44 = .ok (.getfield 12, 3) := by decide +kernel
theorem dX6_readKind_47 : decode cX6_readKind 47 = .ok (.invokevirtual 92, 3) := by decide +kernel
theorem dX6_readKind_50 : decode cX6_readKind 50 = .ok (.aload_n 0, 1) := by decide +kernel
theorem dX6_readKind_51 : decode cX6_readKind 51 = .ok (.invokevirtual 116, 3) := by decide +kernel
theorem dX6_readKind_54 : decode cX6_readKind 54 = .ok (.ifCond .ne 5, 3) := by decide +kernel
theorem dX6_readKind_57 : decode cX6_readKind 57 = .ok (.iconst 0, 1) := by decide +kernel
theorem dX6_readKind_58 : decode cX6_readKind 58 = .ok (.ireturn, 1) := by decide +kernel
theorem dX6_readKind_59 : decode cX6_readKind 59 = .ok (.aload_n 0, 1) := by decide +kernel
theorem dX6_readKind_60 : decode cX6_readKind 60 = .ok (.getfield 27, 3) := by decide +kernel
theorem dX6_readKind_63 : decode cX6_readKind 63 = .ok (.getfield 108, 3) := by decide +kernel
theorem dX6_readKind_66 : decode cX6_readKind 66 = .ok (.aload_n 0, 1) := by decide +kernel
theorem dX6_readKind_67 : decode cX6_readKind 67 = .ok (.getfield 12, 3) := by decide +kernel
theorem dX6_readKind_70 : decode cX6_readKind 70 = .ok (.getfield 95, 3) := by decide +kernel
theorem dX6_readKind_73 : decode cX6_readKind 73 = .ok (.invokevirtual 119, 3) := by decide +kernel
theorem dX6_readKind_76 : decode cX6_readKind 76 = .ok (.aload_n 0, 1) := by decide +kernel
theorem dX6_readKind_77 : decode cX6_readKind 77 = .ok (.getfield 12, 3) := by decide +kernel
theorem dX6_readKind_80 : decode cX6_readKind 80 = .ok (.invokevirtual 92, 3) := by decide +kernel
theorem dX6_readKind_83 : decode cX6_readKind 83 = .ok (.iconst 1, 1) := by decide +kernel
theorem dX6_readKind_84 : decode cX6_readKind 84 = .ok (.ireturn, 1) := by decide +kernel
theorem dX6_isNewName_0 : decode cX6_isNewName 0 = .ok (.aload_n 0, 1) := by decide +kernel
theorem dX6_isNewName_1 : decode cX6_isNewName 1 = .ok (.getfield 12, 3) := by decide +kernel
theorem dX6_isNewName_4 : decode cX6_isNewName 4 = .ok (.invokevirtual 123, 3) := by decide +kernel
theorem dX6_isNewName_7 : decode cX6_isNewName 7 = .ok (.ifCond .ne 8, 3) := by decide +kernel
theorem dX6_isNewName_10 : decode cX6_isNewName 10 = .ok (.aload_n 0, 1) := by decide +kernel
theorem dX6_isNewName_11 : decode cX6_isNewName 11 = .ok (.invokevirtual 65, 3) := by decide +kernel
theorem dX6_isNewName_14 : decode cX6_isNewName 14 = .ok (.ireturn, 1) := by decide +kernel
theorem dX6_isNewName_15 : decode cX6_isNewName 15 = .ok (.aload_n 0, 1) := by decide +kernel
theorem dX6_isNewName_16 : decode cX6_isNewName 16 = .ok (.getfield 27, 3) := by decide +kernel
theorem dX6_isNewName_19 : decode cX6_isNewName 19 = .ok (.getfield 108, 3) := by decide +kernel
theorem dX6_isNewName_22 : decode cX6_isNewName 22 = .ok (.astore_n 1, 1) := by decide +kernel
theorem dX6_isNewName_23 : decode cX6_isNewName 23 = .ok (.aload_n 1, 1) := by decide +kernel
theorem dX6_isNewName_24 : decode cX6_isNewName 24 = .ok (.aload_n 0, 1) := by decide +kernel
theorem dX6_isNewName_25 : decode cX6_isNewName 25 = .ok (.getfield 12, 3) := by decide +kernel
theorem dX6_isNewName_28 : decode cX6_isNewName 28 = .ok (.getfield 95, 3) := by decide +kernel
theorem dX6_isNewName_31 : decode cX6_isNewName 31 = .ok (.invokevirtual 126, 3) := by decide +kernel
theorem dX6_isNewName_34 : decode cX6_isNewName 34 = .ok (.iconst (-1), 1) := by decide +kernel
theorem dX6_isNewName_35 : decode cX6_isNewName 35 = .ok (.if_icmp .ne 18, 3) := by decide +kernel
theorem dX6_isNewName_38 : decode cX6_isNewName 38 = .ok (.aload_n 1, 1) := by decide +kernel
theorem dX6_isNewName_39 : decode cX6_isNewName 39 = .ok (.aload_n 0, 1) := by decide +kernel
theorem dX6_isNewName_40 : decode cX6_isNewName 40 = .ok (.getfield 12, 3) := by decide +kernel
theorem dX6_isNewName_43 : decode cX6_isNewName 43 = .ok (.getfield 95, 3) := by decide +kernel
theorem dX6_isNewName_46 : decode cX6_isNewName 46 = .ok (.invokevirtual 130, 3) := by decide +kernel
theorem dX6_isNewName_49 : decode cX6_isNewName 49 = .ok (.iconst (-1), 1) := by decide +kernel
theorem dX6_isNewName_50 : decode cX6_isNewName 50 = .ok (.if_icmp .eq 16, 3) := by decide +kernel
theorem dX6_isNewName_53 : decode cX6_isNewName 53 = .ok (.aload_n 0, 1) := by decide +kernel
theorem dX6_isNewName_54 : decode cX6_isNewName 54 = .ok (.iconst 2, 1) := by decide +kernel
theorem dX6_isNewName_55 : decode cX6_isNewName 55 = .ok (.aload_n 0, 1) := by decide +kernel
theorem dX6_isNewName_56 : decode cX6_isNewName 56 = .ok (.getfield 12, 3) := by decide +kernel
theorem dX6_isNewName_59 : decode cX6_isNewName 59 = .ok (.getfield 72, 3) := by decide +kernel
theorem dX6_isNewName_62 : decode cX6_isNewName 62 = .ok (.invokevirtual 75, 3) := by decide +kernel
theorem dX6_isNewName_65 : decode cX6_isNewName 65 = .ok (.ireturn, 1) := by decide +kernel
theorem dX6_isNewName_66 : decode cX6_isNewName 66 = .ok (.iconst 1, 1) := by decide +kernel
theorem dX6_isNewName_67 : decode cX6_isNewName 67 = .ok (.ireturn, 1) := by decide +kernel
theorem dX6_readCon_0 : decode cX6_readCon 0 = .ok (.aload_n 0, 1) := by decide +kernel
theorem dX6_readCon_1 : decode cX6_readCon 1 = .ok (.getfield 27, 3) := by decide +kernel
theorem dX6_readCon_4 : decode cX6_readCon 4 = .ok (.getfield 108, 3) := by decide +kernel
theorem dX6_readCon_7 : decode cX6_readCon 7 = .ok (.astore_n 1, 1) := by decide +kernel
theorem dX6_readCon_8 : decode cX6_readCon 8 = .ok (.aload_n 1, 1) := by decide +kernel
theorem dX6_readCon_9 : decode cX6_readCon 9 = .ok (.getfield 112, 3) := by decide +kernel
theorem dX6_readCon_12 : decode cX6_readCon 12 = .ok (.iconst 1, 1) := by decide +kernel
theorem dX6_readCon_13 : decode cX6_readCon 13 = .ok (.isub, 1) := by decide +kernel
theorem dX6_readCon_14 : decode cX6_readCon 14 = .ok (.istore_n 2, 1) := by decide +kernel
theorem dX6_readCon_15 : decode cX6_readCon 15 = .ok (.aload_n 0, 1) := by decide +kernel
theorem dX6_readCon_16 : decode cX6_readCon 16 = .ok (.getfield 27, 3) := by decide +kernel
theorem dX6_readCon_19 : decode cX6_readCon 19 = .ok (.getfield 79, 3) := by decide +kernel
theorem dX6_readCon_22 : decode cX6_readCon 22 = .ok (.ifCond .gt 7, 3) := by decide +kernel
theorem dX6_readCon_25 : decode cX6_readCon 25 = .ok (.iload_n 2, 1) := by decide +kernel
theorem dX6_readCon_26 : decode cX6_readCon 26 = .ok (.ifCond .ge 8, 3) := by decide +kernel
theorem dX6_readCon_29 : decode cX6_readCon 29 = .ok (.aload_n 0, 1) := by decide +kernel
theorem dX6_readCon_30 : decode cX6_readCon 30 = .ok (.invokevirtual 65, 3) := by decide +kernel
theorem dX6_readCon_33 : decode cX6_readCon 33 = .ok (.ireturn, 1) := by decide +kernel
theorem dX6_readCon_34 : decode cX6_readCon 34 = .ok (.aload_n 1, 1) := by decide +kernel
theorem dX6_readCon_35 : decode cX6_readCon 35 = .ok (.iload_n 2, 1) := by decide +kernel
theorem dX6_readCon_36 : decode cX6_readCon 36 = .ok (.invokevirtual 133, 3) := by decide +kernel
theorem dX6_readCon_39 : decode cX6_readCon 39 = .ok (.bipush 6, 2) := by decide +kernel
theorem dX6_readCon_41 : decode cX6_readCon 41 = .ok (.if_icmp .lt 17, 3) := by decide +kernel
theorem dX6_readCon_44 : decode cX6_readCon 44 = .ok (.aload_n 0, 1) := by decide +kernel
theorem dX6_readCon_45 : decode cX6_readCon 45 = .ok (.bipush 6, 2) := by decide +kernel
theorem dX6_readCon_47 : decode cX6_readCon 47 = .ok (.aload_n 0, 1) := by decide +kernel
theorem dX6_readCon_48 : decode cX6_readCon 48 = .ok (.getfield 12, 3) := by decide +kernel
theorem dX6_readCon_51 : decode cX6_readCon 51 = .ok (.getfield 72, 3) := by decide +kernel
theorem dX6_readCon_54 : decode cX6_readCon 54 = .ok (.invokevirtual 75, 3) := by decide +kernel
theorem dX6_readCon_57 : decode cX6_readCon 57 = .ok (.ireturn, 1) := by decide +kernel
theorem dX6_readCon_58 : decode cX6_readCon 58 = .ok (.aload_n 0, 1) := by decide +kernel
theorem dX6_readCon_59 : decode cX6_readCon 59 = .ok (.getfield 12, 3) := by decide +kernel
theorem dX6_readCon_62 : decode cX6_readCon 62 = .ok (.invokevirtual 92, 3) := by decide +kernel
theorem dX6_readCon_65 : decode cX6_readCon 65 = .ok (.aload_n 0, 1) := by decide +kernel
theorem dX6_readCon_66 : decode cX6_readCon 66 = .ok (.invokevirtual 116, 3) := by decide +kernel
theorem dX6_readCon_69 : decode cX6_readCon 69 = .ok (.ifCond .ne 5, 3) := by decide +kernel
theorem dX6_readCon_72 : decode cX6_readCon 72 = .ok (.iconst 0, 1) := by decide +kernel
theorem dX6_readCon_73 : decode cX6_readCon 73 = .ok (.ireturn, 1) := by decide +kernel
theorem dX6_readCon_74 : decode cX6_readCon 74 = .ok (.aload_n 0, 1) := by decide +kernel
theorem dX6_readCon_75 : decode cX6_readCon 75 = .ok (.getfield 12, 3) := by decide +kernel
theorem dX6_readCon_78 : decode cX6_readCon 78 = .ok (.getfield 95, 3) := by decide +kernel
theorem dX6_readCon_81 : decode cX6_readCon 81 = .ok (.istore_n 3, 1) := by decide +kernel
theorem dX6_readCon_82 : decode cX6_readCon 82 = .ok (.iconst 0, 1) := by decide +kernel
theorem dX6_readCon_83 : decode cX6_readCon 83 = .ok (.istore 4, 2) := by decide +kernel
theorem dX6_readCon_85 : decode cX6_readCon 85 = .ok (.iconst (-1), 1) := by decide +kernel
theorem dX6_readCon_86 : decode cX6_readCon 86 = .ok (.istore 5, 2) := by decide +kernel
theorem dX6_readCon_88 : decode cX6_readCon 88 = .ok (.iconst (-1), 1) := by decide +kernel
theorem dX6_readCon_89 : decode cX6_readCon 89 = .ok (.istore 6, 2) := by decide +kernel
theorem dX6_readCon_91 : decode cX6_readCon 91 = .ok (.iconst 1, 1) := by decide +kernel
theorem dX6_readCon_92 : decode cX6_readCon 92 = .ok (.istore 7, 2) := by decide +kernel
theorem dX6_readCon_94 : decode cX6_readCon 94 = .ok (.aload_n 0, 1) := by decide +kernel
theorem dX6_readCon_95 : decode cX6_readCon 95 = .ok (.getfield 12, 3) := by decide +kernel
theorem dX6_readCon_98 : decode cX6_readCon 98 = .ok (.invokevirtual 92, 3) := by decide +kernel
theorem dX6_readCon_101 : decode cX6_readCon 101 = .ok (.aload_n 0, 1) := by decide +kernel
theorem dX6_readCon_102 : decode cX6_readCon 102 = .ok (.invokevirtual 136, 3) := by decide +kernel
theorem dX6_readCon_105 : decode cX6_readCon 105 = .ok (.ifCond .eq 123, 3) := by decide +kernel
theorem dX6_readCon_108 : decode cX6_readCon 108 = .ok (.iload 4, 2) := by decide +kernel
theorem dX6_readCon_110 : decode cX6_readCon 110 = .ok (.iconst 2, 1) := by decide +kernel
theorem dX6_readCon_111 : decode cX6_readCon 111 = .ok (.if_icmp .gt 117, 3) := by decide +kernel
theorem dX6_readCon_114 : decode cX6_readCon 114 = .ok (.iload 4, 2) := by decide +kernel
theorem dX6_readCon_116 : decode cX6_readCon 116 = .ok (.iconst 2, 1) := by decide +kernel
theorem dX6_readCon_117 : decode cX6_readCon 117 = .ok (.if_icmp .ne 17, 3) := by decide +kernel
theorem dX6_readCon_120 : decode cX6_readCon 120 = .ok (.aload_n 0, 1) := by decide +kernel
theorem dX6_readCon_121 : decode cX6_readCon 121 = .ok (.bipush 6, 2) := by decide +kernel
theorem dX6_readCon_123 : decode cX6_readCon 123 = .ok (.aload_n 0, 1) := by decide +kernel
theorem dX6_readCon_124 : decode cX6_readCon 124 = .ok (.getfield 12, 3) := by decide +kernel
theorem dX6_readCon_127 : decode cX6_readCon 127 = .ok (.getfield 72, 3) := by decide +kernel
theorem dX6_readCon_130 : decode cX6_readCon 130 = .ok (.invokevirtual 75, 3) := by decide +kernel
theorem dX6_readCon_133 : decode cX6_readCon 133 = .ok (.ireturn, 1) := by decide +kernel
theorem dX6_readCon_134 : decode cX6_readCon 134 = .ok (.aload_n 0, 1) := by decide +kernel
theorem dX6_readCon_135 : decode cX6_readCon 135 = .ok (.iload_n 2, 1) := by decide +kernel
theorem dX6_readCon_136 : decode cX6_readCon 136 = .ok (.invokevirtual 139, 3) := by decide +kernel
theorem dX6_readCon_139 : decode cX6_readCon 139 = .ok (.ifCond .ne 16, 3) := by decide +kernel
theorem dX6_readCon_142 : decode cX6_readCon 142 = .ok (.aload_n 0, 1) := by decide +kernel
theorem dX6_readCon_143 : decode cX6_readCon 143 = .ok (.iconst 3, 1) := by decide +kernel
theorem dX6_readCon_144 : decode cX6_readCon 144 = .ok (.aload_n 0, 1) := by decide +kernel
theorem dX6_readCon_145 : decode cX6_readCon 145 = .ok (.getfield 12, 3) := by decide +kernel
theorem dX6_readCon_148 : decode cX6_readCon 148 = .ok (.getfield 72, 3) := by decide +kernel
theorem dX6_readCon_151 : decode cX6_readCon 151 = .ok (.invokevirtual 75, 3) := by decide +kernel
theorem dX6_readCon_154 : decode cX6_readCon 154 = .ok (.ireturn, 1) := by decide +kernel
theorem dX6_readCon_155 : decode cX6_readCon 155 = .ok (.aload_n 0, 1) := by decide +kernel
theorem dX6_readCon_156 : decode cX6_readCon 156 = .ok (.invokevirtual 142, 3) := by decide +kernel
theorem dX6_readCon_159 : decode cX6_readCon 159 = .ok (.istore 8, 2) := by decide +kernel
theorem dX6_readCon_161 : decode cX6_readCon 161 = .ok (.iload 7, 2) := by decide +kernel
theorem dX6_readCon_163 : decode cX6_readCon 163 = .ok (.aload_n 1, 1) := by decide +kernel
theorem dX6_readCon_164 : decode cX6_readCon 164 = .ok (.iload 8, 2) := by decide +kernel
theorem dX6_readCon_166 : decode cX6_readCon 166 = .ok (.invokevirtual 146, 3) := by decide +kernel
theorem dX6_readCon_169 : decode cX6_readCon 169 = .ok (.imul, 1) := by decide +kernel
theorem dX6_readCon_170 : decode cX6_readCon 170 = .ok (.istore 7, 2) := by decide +kernel
theorem dX6_readCon_172 : decode cX6_readCon 172 = .ok (.aload_n 1, 1) := by decide +kernel
theorem dX6_readCon_173 : decode cX6_readCon 173 = .ok (.iload_n 2, 1) := by decide +kernel
theorem dX6_readCon_174 : decode cX6_readCon 174 = .ok (.invokevirtual 146, 3) := by decide +kernel
theorem dX6_readCon_177 : decode cX6_readCon 177 = .ok (.iload 7, 2) := by decide +kernel
theorem dX6_readCon_179 : decode cX6_readCon 179 = .ok (.iadd, 1) := by decide +kernel
theorem dX6_readCon_180 : decode cX6_readCon 180 = .ok (.sipush 2000, 3) := by decide +kernel
theorem dX6_readCon_183 : decode cX6_readCon 183 = .ok (.if_icmp .le 16, 3) := by decide +kernel
theorem dX6_readCon_186 : decode cX6_readCon 186 = .ok (.aload_n 0, 1) := by decide +kernel
theorem dX6_readCon_187 : decode cX6_readCon 187 = .ok (.iconst 4, 1) := by decide +kernel
theorem dX6_readCon_188 : decode cX6_readCon 188 = .ok (.aload_n 0, 1) := by decide +kernel
theorem dX6_readCon_189 : decode cX6_readCon 189 = .ok (.getfield 12, 3) := by decide +kernel
theorem dX6_readCon_192 : decode cX6_readCon 192 = .ok (.getfield 72, 3) := by decide +kernel
theorem dX6_readCon_195 : decode cX6_readCon 195 = .ok (.invokevirtual 75, 3) := by decide +kernel
theorem dX6_readCon_198 : decode cX6_readCon 198 = .ok (.ireturn, 1) := by decide +kernel
theorem dX6_readCon_199 : decode cX6_readCon 199 = .ok (.iload 4, 2) := by decide +kernel
theorem dX6_readCon_201 : decode cX6_readCon 201 = .ok (.ifCond .ne 10, 3) := by decide +kernel
theorem dX6_readCon_204 : decode cX6_readCon 204 = .ok (.iload 8, 2) := by decide +kernel
theorem dX6_readCon_206 : decode cX6_readCon 206 = .ok (.istore 5, 2) := by decide +kernel
theorem dX6_readCon_208 : decode cX6_readCon 208 = .ok (.goto 7, 3) := by decide +kernel
theorem dX6_readCon_211 : decode cX6_readCon 211 = .ok (.iload 8, 2) := by decide +kernel
theorem dX6_readCon_213 : decode cX6_readCon 213 = .ok (.istore 6, 2) := by decide +kernel
theorem dX6_readCon_215 : decode cX6_readCon 215 = .ok (.iinc 4 1, 3) := by decide +kernel
theorem dX6_readCon_218 : decode cX6_readCon 218 = .ok (.aload_n 0, 1) := by decide +kernel
theorem dX6_readCon_219 : decode cX6_readCon 219 = .ok (.getfield 12, 3) := by decide +kernel
theorem dX6_readCon_222 : decode cX6_readCon 222 = .ok (.invokevirtual 92, 3) := by decide +kernel
theorem dX6_readCon_225 : decode cX6_readCon 225 = .ok (.goto (-124), 3) := by decide +kernel
theorem dX6_readCon_228 : decode cX6_readCon 228 = .ok (.aload_n 1, 1) := by decide +kernel
theorem dX6_readCon_229 : decode cX6_readCon 229 = .ok (.iload_n 3, 1) := by decide +kernel
theorem dX6_readCon_230 : decode cX6_readCon 230 = .ok (.iload 4, 2) := by decide +kernel
theorem dX6_readCon_232 : decode cX6_readCon 232 = .ok (.iload 5, 2) := by decide +kernel
theorem dX6_readCon_234 : decode cX6_readCon 234 = .ok (.iload 6, 2) := by decide +kernel
theorem dX6_readCon_236 : decode cX6_readCon 236 = .ok (.iload 7, 2) := by decide +kernel
theorem dX6_readCon_238 : decode cX6_readCon 238 = .ok (.invokevirtual 149, 3) := by decide +kernel
theorem dX6_readCon_241 : decode cX6_readCon 241 = .ok (.iconst 1, 1) := by decide +kernel
theorem dX6_readCon_242 : decode cX6_readCon 242 = .ok (.ireturn, 1) := by decide +kernel
theorem dX6_isKindWord_0 : decode cX6_isKindWord 0 = .ok (.aload_n 0, 1) := by decide +kernel
theorem dX6_isKindWord_1 : decode cX6_isKindWord 1 = .ok (.getfield 12, 3) := by decide +kernel
theorem dX6_isKindWord_4 : decode cX6_isKindWord 4 = .ok (.invokevirtual 123, 3) := by decide +kernel
theorem dX6_isKindWord_7 : decode cX6_isKindWord 7 = .ok (.ifCond .ne 15, 3) := by decide +kernel
theorem dX6_isKindWord_10 : decode cX6_isKindWord 10 = .ok (.aload_n 0, 1) := by decide +kernel
theorem dX6_isKindWord_11 : decode cX6_isKindWord 11 = .ok (.getfield 12, 3) := by decide +kernel
theorem dX6_isKindWord_14 : decode cX6_isKindWord 14 = .ok (.getfield 43, 3) := by decide +kernel
theorem dX6_isKindWord_17 : decode cX6_isKindWord 17 = .ok (.bipush 7, 2) := by decide +kernel
theorem dX6_isKindWord_19 : decode cX6_isKindWord 19 = .ok (.if_icmp .ne 7, 3) := by decide +kernel
theorem dX6_isKindWord_22 : decode cX6_isKindWord 22 = .ok (.iconst 1, 1) := by decide +kernel
theorem dX6_isKindWord_23 : decode cX6_isKindWord 23 = .ok (.goto 4, 3) := by decide +kernel
theorem dX6_isKindWord_26 : decode cX6_isKindWord 26 = .ok (.iconst 0, 1) := by decide +kernel
theorem dX6_isKindWord_27 : decode cX6_isKindWord 27 = .ok (.ireturn, 1) := by decide +kernel
theorem dX6_kindHere_0 : decode cX6_kindHere 0 = .ok (.aload_n 0, 1) := by decide +kernel
theorem dX6_kindHere_1 : decode cX6_kindHere 1 = .ok (.getfield 12, 3) := by decide +kernel
theorem dX6_kindHere_4 : decode cX6_kindHere 4 = .ok (.getfield 43, 3) := by decide +kernel
theorem dX6_kindHere_7 : decode cX6_kindHere 7 = .ok (.bipush 7, 2) := by decide +kernel
theorem dX6_kindHere_9 : decode cX6_kindHere 9 = .ok (.if_icmp .ne 7, 3) := by decide +kernel
theorem dX6_kindHere_12 : decode cX6_kindHere 12 = .ok (.iconst (-1), 1) := by decide +kernel
theorem dX6_kindHere_13 : decode cX6_kindHere 13 = .ok (.goto 20, 3) := by decide +kernel
theorem dX6_kindHere_16 : decode cX6_kindHere 16 = .ok (.aload_n 0, 1) := by decide +kernel
theorem dX6_kindHere_17 : decode cX6_kindHere 17 = .ok (.getfield 27, 3) := by decide +kernel
theorem dX6_kindHere_20 : decode cX6_kindHere 20 = .ok (.getfield 108, 3) := by decide +kernel
theorem dX6_kindHere_23 : decode cX6_kindHere 23 = .ok (.aload_n 0, 1) := by decide +kernel
theorem dX6_kindHere_24 : decode cX6_kindHere 24 = .ok (.getfield 12, 3) := by decide +kernel
theorem dX6_kindHere_27 : decode cX6_kindHere 27 = .ok (.getfield 95, 3) := by decide +kernel
theorem dX6_kindHere_30 : decode cX6_kindHere 30 = .ok (.invokevirtual 126, 3) := by decide +kernel
theorem dX6_kindHere_33 : decode cX6_kindHere 33 = .ok (.ireturn, 1) := by decide +kernel
theorem dX6_isKindHere_0 : decode cX6_isKindHere 0 = .ok (.aload_n 0, 1) := by decide +kernel
theorem dX6_isKindHere_1 : decode cX6_isKindHere 1 = .ok (.getfield 12, 3) := by decide +kernel
theorem dX6_isKindHere_4 : decode cX6_isKindHere 4 = .ok (.getfield 43, 3) := by decide +kernel
theorem dX6_isKindHere_7 : decode cX6_isKindHere 7 = .ok (.bipush 7, 2) := by decide +kernel
theorem dX6_isKindHere_9 : decode cX6_isKindHere 9 = .ok (.if_icmp .ne 5, 3) := by decide +kernel
theorem dX6_isKindHere_12 : decode cX6_isKindHere 12 = .ok (.iconst 1, 1) := by decide +kernel
theorem dX6_isKindHere_13 : decode cX6_isKindHere 13 = .ok (.ireturn, 1) := by decide +kernel
theorem dX6_isKindHere_14 : decode cX6_isKindHere 14 = .ok (.aload_n 0, 1) := by decide +kernel
theorem dX6_isKindHere_15 : decode cX6_isKindHere 15 = .ok (.invokevirtual 142, 3) := by decide +kernel
theorem dX6_isKindHere_18 : decode cX6_isKindHere 18 = .ok (.istore_n 2, 1) := by decide +kernel
theorem dX6_isKindHere_19 : decode cX6_isKindHere 19 = .ok (.iload_n 2, 1) := by decide +kernel
theorem dX6_isKindHere_20 : decode cX6_isKindHere 20 = .ok (.iconst (-1), 1) := by decide +kernel
theorem dX6_isKindHere_21 : decode cX6_isKindHere 21 = .ok (.if_icmp .eq 26, 3) := by decide +kernel
theorem dX6_isKindHere_24 : decode cX6_isKindHere 24 = .ok (.iload_n 2, 1) := by decide +kernel
theorem dX6_isKindHere_25 : decode cX6_isKindHere 25 = .ok (.iload_n 1, 1) := by decide +kernel
theorem dX6_isKindHere_26 : decode cX6_isKindHere 26 = .ok (.if_icmp .eq 21, 3) := by decide +kernel
theorem dX6_isKindHere_29 : decode cX6_isKindHere 29 = .ok (.aload_n 0, 1) := by decide +kernel
theorem dX6_isKindHere_30 : decode cX6_isKindHere 30 = .ok (.getfield 27, 3) := by decide +kernel
theorem dX6_isKindHere_33 : decode cX6_isKindHere 33 = .ok (.getfield 108, 3) := by decide +kernel
theorem dX6_isKindHere_36 : decode cX6_isKindHere 36 = .ok (.iload_n 2, 1) := by decide +kernel
theorem dX6_isKindHere_37 : decode cX6_isKindHere 37 = .ok (.invokevirtual 133, 3) := by decide +kernel
theorem dX6_isKindHere_40 : decode cX6_isKindHere 40 = .ok (.ifCond .le 7, 3) := by decide +kernel
theorem dX6_isKindHere_43 : decode cX6_isKindHere 43 = .ok (.iconst 1, 1) := by decide +kernel
theorem dX6_isKindHere_44 : decode cX6_isKindHere 44 = .ok (.goto 4, 3) := by decide +kernel
theorem dX6_isKindHere_47 : decode cX6_isKindHere 47 = .ok (.iconst 0, 1) := by decide +kernel
theorem dX6_isKindHere_48 : decode cX6_isKindHere 48 = .ok (.ireturn, 1) := by decide +kernel
theorem dX6_readColumns_0 : decode cX6_readColumns 0 = .ok (.aload_n 0, 1) := by decide +kernel
theorem dX6_readColumns_1 : decode cX6_readColumns 1 = .ok (.getfield 27, 3) := by decide +kernel
theorem dX6_readColumns_4 : decode cX6_readColumns 4 = .ok (.getfield 79, 3) := by decide +kernel
theorem dX6_readColumns_7 : decode cX6_readColumns 7 = .ok (.ifCond .le 17, 3) := by decide +kernel
theorem dX6_readColumns_10 : decode cX6_readColumns 10 = .ok (.aload_n 0, 1) := by decide +kernel
theorem dX6_readColumns_11 : decode cX6_readColumns 11 = .ok (.bipush 6, 2) := by decide +kernel
theorem dX6_readColumns_13 : decode cX6_readColumns 13 = .ok (.aload_n 0, 1) := by decide +kernel
theorem dX6_readColumns_14 : decode cX6_readColumns 14 = .ok (.getfield 12, 3) := by decide +kernel
theorem dX6_readColumns_17 : decode cX6_readColumns 17 = .ok (.getfield 72, 3) := by decide +kernel
theorem dX6_readColumns_20 : decode cX6_readColumns 20 = .ok (.invokevirtual 75, 3) := by decide +kernel
theorem dX6_readColumns_23 : decode cX6_readColumns 23 = .ok (.ireturn, 1) := by decide +kernel
theorem dX6_readColumns_24 : decode cX6_readColumns 24 = .ok (.aload_n 0, 1) := by decide +kernel
theorem dX6_readColumns_25 : decode cX6_readColumns 25 = .ok (.getfield 12, 3) := by decide +kernel
theorem dX6_readColumns_28 : decode cX6_readColumns 28 = .ok (.invokevirtual 92, 3) := by decide +kernel
theorem dX6_readColumns_31 : decode cX6_readColumns 31 = .ok (.aload_n 0, 1) := by decide +kernel
theorem dX6_readColumns_32 : decode cX6_readColumns 32 = .ok (.invokevirtual 136, 3) := by decide +kernel
theorem dX6_readColumns_35 : decode cX6_readColumns 35 = .ok (.ifCond .ne 8, 3) := by decide +kernel
theorem dX6_readColumns_38 : decode cX6_readColumns 38 = .ok (.aload_n 0, 1) := by decide +kernel
theorem dX6_readColumns_39 : decode cX6_readColumns 39 = .ok (.invokevirtual 65, 3) := by decide +kernel
theorem dX6_readColumns_42 : decode cX6_readColumns 42 = .ok (.ireturn, 1) := by decide +kernel
theorem dX6_readColumns_43 : decode cX6_readColumns 43 = .ok (.iconst 1, 1) := by decide +kernel
theorem dX6_readColumns_44 : decode cX6_readColumns 44 = .ok (.istore_n 1, 1) := by decide +kernel
theorem dX6_readColumns_45 : decode cX6_readColumns 45 = .ok (.iconst 0, 1) := by decide +kernel
theorem dX6_readColumns_46 : decode cX6_readColumns 46 = .ok (.istore_n 2, 1) := by decide +kernel
theorem dX6_readColumns_47 : decode cX6_readColumns 47 = .ok (.iload_n 2, 1) := by decide +kernel
theorem dX6_readColumns_48 : decode cX6_readColumns 48 = .ok (.iconst 4, 1) := by decide +kernel
theorem dX6_readColumns_49 : decode cX6_readColumns 49 = .ok (.if_icmp .gt 110, 3) := by decide +kernel
theorem dX6_readColumns_52 : decode cX6_readColumns 52 = .ok (.aload_n 0, 1) := by decide +kernel
theorem dX6_readColumns_53 : decode cX6_readColumns 53 = .ok (.invokevirtual 136, 3) := by decide +kernel
theorem dX6_readColumns_56 : decode cX6_readColumns 56 = .ok (.ifCond .eq 103, 3) := by decide +kernel
theorem dX6_readColumns_59 : decode cX6_readColumns 59 = .ok (.iload_n 2, 1) := by decide +kernel
theorem dX6_readColumns_60 : decode cX6_readColumns 60 = .ok (.iconst 4, 1) := by decide +kernel
theorem dX6_readColumns_61 : decode cX6_readColumns 61 = .ok (.if_icmp .ne 17, 3) := by decide +kernel
theorem dX6_readColumns_64 : decode cX6_readColumns 64 = .ok (.aload_n 0, 1) := by decide +kernel
theorem dX6_readColumns_65 : decode cX6_readColumns 65 = .ok (.bipush 6, 2) := by decide +kernel
theorem dX6_readColumns_67 : decode cX6_readColumns 67 = .ok (.aload_n 0, 1) := by decide +kernel
theorem dX6_readColumns_68 : decode cX6_readColumns 68 = .ok (.getfield 12, 3) := by decide +kernel
theorem dX6_readColumns_71 : decode cX6_readColumns 71 = .ok (.getfield 72, 3) := by decide +kernel
theorem dX6_readColumns_74 : decode cX6_readColumns 74 = .ok (.invokevirtual 75, 3) := by decide +kernel
theorem dX6_readColumns_77 : decode cX6_readColumns 77 = .ok (.ireturn, 1) := by decide +kernel
theorem dX6_readColumns_78 : decode cX6_readColumns 78 = .ok (.aload_n 0, 1) := by decide +kernel
theorem dX6_readColumns_79 : decode cX6_readColumns 79 = .ok (.iconst (-1), 1) := by decide +kernel
theorem dX6_readColumns_80 : decode cX6_readColumns 80 = .ok (.invokevirtual 139, 3) := by decide +kernel
theorem dX6_readColumns_83 : decode cX6_readColumns 83 = .ok (.ifCond .ne 16, 3) := by decide +kernel
theorem dX6_readColumns_86 : decode cX6_readColumns 86 = .ok (.aload_n 0, 1) := by decide +kernel
theorem dX6_readColumns_87 : decode cX6_readColumns 87 = .ok (.iconst 3, 1) := by decide +kernel
theorem dX6_readColumns_88 : decode cX6_readColumns 88 = .ok (.aload_n 0, 1) := by decide +kernel
theorem dX6_readColumns_89 : decode cX6_readColumns 89 = .ok (.getfield 12, 3) := by decide +kernel
theorem dX6_readColumns_92 : decode cX6_readColumns 92 = .ok (.getfield 72, 3) := by decide +kernel
theorem dX6_readColumns_95 : decode cX6_readColumns 95 = .ok (.invokevirtual 75, 3) := by decide +kernel
theorem dX6_readColumns_98 : decode cX6_readColumns 98 = .ok (.ireturn, 1) := by decide +kernel
theorem dX6_readColumns_99 : decode cX6_readColumns 99 = .ok (.aload_n 0, 1) := by decide +kernel
theorem dX6_readColumns_100 : decode cX6_readColumns 100 = .ok (.invokevirtual 142, 3) := by decide +kernel
theorem dX6_readColumns_103 : decode cX6_readColumns 103 = .ok (.istore_n 3, 1) := by decide +kernel
theorem dX6_readColumns_104 : decode cX6_readColumns 104 = .ok (.iload_n 1, 1) := by decide +kernel
theorem dX6_readColumns_105 : decode cX6_readColumns 105 = .ok (.aload_n 0, 1) := by decide +kernel
theorem dX6_readColumns_106 : decode cX6_readColumns 106 = .ok (.getfield 27, 3) := by decide +kernel
theorem dX6_readColumns_109 : decode cX6_readColumns 109 = .ok (.getfield 108, 3) := by decide +kernel
theorem dX6_readColumns_112 : decode cX6_readColumns 112 = .ok (.iload_n 3, 1) := by decide +kernel
theorem dX6_readColumns_113 : decode cX6_readColumns 113 = .ok (.invokevirtual 146, 3) := by decide +kernel
theorem dX6_readColumns_116 : decode cX6_readColumns 116 = .ok (.imul, 1) := by decide +kernel
theorem dX6_readColumns_117 : decode cX6_readColumns 117 = .ok (.istore_n 1, 1) := by decide +kernel
theorem dX6_readColumns_118 : decode cX6_readColumns 118 = .ok (.iload_n 1, 1) := by decide +kernel
theorem dX6_readColumns_119 : decode cX6_readColumns 119 = .ok (.sipush 20000, 3) := by decide +kernel
theorem dX6_readColumns_122 : decode cX6_readColumns 122 = .ok (.if_icmp .le 16, 3) := by decide +kernel
theorem dX6_readColumns_125 : decode cX6_readColumns 125 = .ok (.aload_n 0, 1) := by decide +kernel
theorem dX6_readColumns_126 : decode cX6_readColumns 126 = .ok (.iconst 4, 1) := by decide +kernel
theorem dX6_readColumns_127 : decode cX6_readColumns 127 = .ok (.aload_n 0, 1) := by decide +kernel
theorem dX6_readColumns_128 : decode cX6_readColumns 128 = .ok (.getfield 12, 3) := by decide +kernel
theorem dX6_readColumns_131 : decode cX6_readColumns 131 = .ok (.getfield 72, 3) := by decide +kernel
theorem dX6_readColumns_134 : decode cX6_readColumns 134 = .ok (.invokevirtual 75, 3) := by decide +kernel
theorem dX6_readColumns_137 : decode cX6_readColumns 137 = .ok (.ireturn, 1) := by decide +kernel
theorem dX6_readColumns_138 : decode cX6_readColumns 138 = .ok (.aload_n 0, 1) := by decide +kernel
end
section
theorem dX6_readColumns_139 : decode cX6_readColumns 139 = .ok (.getfield 27, 3) := by decide +kernel
theorem dX6_readColumns_142 : decode cX6_readColumns 142 = .ok (.iload_n 3, 1) := by decide +kernel
theorem dX6_readColumns_143 : decode cX6_readColumns 143 = .ok (.invokevirtual 153, 3) := by decide +kernel
theorem dX6_readColumns_146 : decode cX6_readColumns 146 = .ok (.aload_n 0, 1) := by decide +kernel
theorem dX6_readColumns_147 : decode cX6_readColumns 147 = .ok (.getfield 12, 3) := by decide +kernel
theorem dX6_readColumns_150 : decode cX6_readColumns 150 = .ok (.invokevirtual 92, 3) := by decide +kernel
theorem dX6_readColumns_153 : decode cX6_readColumns 153 = .ok (.iinc 2 1, 3) := by decide +kernel
theorem dX6_readColumns_156 : decode cX6_readColumns 156 = .ok (.goto (-109), 3) := by decide +kernel
theorem dX6_readColumns_159 : decode cX6_readColumns 159 = .ok (.iconst 1, 1) := by decide +kernel
theorem dX6_readColumns_160 : decode cX6_readColumns 160 = .ok (.ireturn, 1) := by decide +kernel
theorem dX6_readArm_0 : decode cX6_readArm 0 = .ok (.aload_n 0, 1) := by decide +kernel
theorem dX6_readArm_1 : decode cX6_readArm 1 = .ok (.getfield 27, 3) := by decide +kernel
theorem dX6_readArm_4 : decode cX6_readArm 4 = .ok (.getfield 79, 3) := by decide +kernel
theorem dX6_readArm_7 : decode cX6_readArm 7 = .ok (.ifCond .ne 8, 3) := by decide +kernel
theorem dX6_readArm_10 : decode cX6_readArm 10 = .ok (.aload_n 0, 1) := by decide +kernel
theorem dX6_readArm_11 : decode cX6_readArm 11 = .ok (.invokevirtual 65, 3) := by decide +kernel
theorem dX6_readArm_14 : decode cX6_readArm 14 = .ok (.ireturn, 1) := by decide +kernel
theorem dX6_readArm_15 : decode cX6_readArm 15 = .ok (.aload_n 0, 1) := by decide +kernel
theorem dX6_readArm_16 : decode cX6_readArm 16 = .ok (.getfield 27, 3) := by decide +kernel
theorem dX6_readArm_19 : decode cX6_readArm 19 = .ok (.getfield 156, 3) := by decide +kernel
theorem dX6_readArm_22 : decode cX6_readArm 22 = .ok (.bipush 12, 2) := by decide +kernel
theorem dX6_readArm_24 : decode cX6_readArm 24 = .ok (.if_icmp .lt 17, 3) := by decide +kernel
theorem dX6_readArm_27 : decode cX6_readArm 27 = .ok (.aload_n 0, 1) := by decide +kernel
theorem dX6_readArm_28 : decode cX6_readArm 28 = .ok (.bipush 6, 2) := by decide +kernel
theorem dX6_readArm_30 : decode cX6_readArm 30 = .ok (.aload_n 0, 1) := by decide +kernel
theorem dX6_readArm_31 : decode cX6_readArm 31 = .ok (.getfield 12, 3) := by decide +kernel
theorem dX6_readArm_34 : decode cX6_readArm 34 = .ok (.getfield 72, 3) := by decide +kernel
theorem dX6_readArm_37 : decode cX6_readArm 37 = .ok (.invokevirtual 75, 3) := by decide +kernel
theorem dX6_readArm_40 : decode cX6_readArm 40 = .ok (.ireturn, 1) := by decide +kernel
theorem dX6_readArm_41 : decode cX6_readArm 41 = .ok (.aload_n 0, 1) := by decide +kernel
theorem dX6_readArm_42 : decode cX6_readArm 42 = .ok (.getfield 12, 3) := by decide +kernel
theorem dX6_readArm_45 : decode cX6_readArm 45 = .ok (.invokevirtual 92, 3) := by decide +kernel
theorem dX6_readArm_48 : decode cX6_readArm 48 = .ok (.iconst 0, 1) := by decide +kernel
theorem dX6_readArm_49 : decode cX6_readArm 49 = .ok (.istore_n 1, 1) := by decide +kernel
theorem dX6_readArm_50 : decode cX6_readArm 50 = .ok (.iload_n 1, 1) := by decide +kernel
theorem dX6_readArm_51 : decode cX6_readArm 51 = .ok (.aload_n 0, 1) := by decide +kernel
theorem dX6_readArm_52 : decode cX6_readArm 52 = .ok (.getfield 27, 3) := by decide +kernel
theorem dX6_readArm_55 : decode cX6_readArm 55 = .ok (.getfield 79, 3) := by decide +kernel
theorem dX6_readArm_58 : decode cX6_readArm 58 = .ok (.if_icmp .ge 58, 3) := by decide +kernel
theorem dX6_readArm_61 : decode cX6_readArm 61 = .ok (.iload_n 1, 1) := by decide +kernel
theorem dX6_readArm_62 : decode cX6_readArm 62 = .ok (.ifCond .le 14, 3) := by decide +kernel
theorem dX6_readArm_65 : decode cX6_readArm 65 = .ok (.aload_n 0, 1) := by decide +kernel
theorem dX6_readArm_66 : decode cX6_readArm 66 = .ok (.bipush 44, 2) := by decide +kernel
theorem dX6_readArm_68 : decode cX6_readArm 68 = .ok (.invokevirtual 68, 3) := by decide +kernel
theorem dX6_readArm_71 : decode cX6_readArm 71 = .ok (.ifCond .ne 5, 3) := by decide +kernel
theorem dX6_readArm_74 : decode cX6_readArm 74 = .ok (.iconst 0, 1) := by decide +kernel
theorem dX6_readArm_75 : decode cX6_readArm 75 = .ok (.ireturn, 1) := by decide +kernel
theorem dX6_readArm_76 : decode cX6_readArm 76 = .ok (.aload_n 0, 1) := by decide +kernel
theorem dX6_readArm_77 : decode cX6_readArm 77 = .ok (.aload_n 0, 1) := by decide +kernel
theorem dX6_readArm_78 : decode cX6_readArm 78 = .ok (.getfield 27, 3) := by decide +kernel
theorem dX6_readArm_81 : decode cX6_readArm 81 = .ok (.getfield 159, 3) := by decide +kernel
theorem dX6_readArm_84 : decode cX6_readArm 84 = .ok (.iload_n 1, 1) := by decide +kernel
theorem dX6_readArm_85 : decode cX6_readArm 85 = .ok (.iaload, 1) := by decide +kernel
theorem dX6_readArm_86 : decode cX6_readArm 86 = .ok (.iconst 0, 1) := by decide +kernel
theorem dX6_readArm_87 : decode cX6_readArm 87 = .ok (.iconst 0, 1) := by decide +kernel
theorem dX6_readArm_88 : decode cX6_readArm 88 = .ok (.invokestatic 163, 3) := by decide +kernel
theorem dX6_readArm_91 : decode cX6_readArm 91 = .ok (.ifCond .ne 5, 3) := by decide +kernel
theorem dX6_readArm_94 : decode cX6_readArm 94 = .ok (.iconst 0, 1) := by decide +kernel
theorem dX6_readArm_95 : decode cX6_readArm 95 = .ok (.ireturn, 1) := by decide +kernel
theorem dX6_readArm_96 : decode cX6_readArm 96 = .ok (.aload_n 0, 1) := by decide +kernel
theorem dX6_readArm_97 : decode cX6_readArm 97 = .ok (.getfield 27, 3) := by decide +kernel
theorem dX6_readArm_100 : decode cX6_readArm 100 = .ok (.iload_n 1, 1) := by decide +kernel
theorem dX6_readArm_101 : decode cX6_readArm 101 = .ok (.aload_n 0, 1) := by decide +kernel
theorem dX6_readArm_102 : decode cX6_readArm 102 = .ok (.getfield 20, 3) := by decide +kernel
theorem dX6_readArm_105 : decode cX6_readArm 105 = .ok (.iconst 0, 1) := by decide +kernel
theorem dX6_readArm_106 : decode cX6_readArm 106 = .ok (.aaload, 1) := by decide +kernel
theorem dX6_readArm_107 : decode cX6_readArm 107 = .ok (.invokevirtual 167, 3) := by decide +kernel
theorem dX6_readArm_110 : decode cX6_readArm 110 = .ok (.iinc 1 1, 3) := by decide +kernel
theorem dX6_readArm_113 : decode cX6_readArm 113 = .ok (.goto (-63), 3) := by decide +kernel
theorem dX6_readArm_116 : decode cX6_readArm 116 = .ok (.iconst (-1), 1) := by decide +kernel
theorem dX6_readArm_117 : decode cX6_readArm 117 = .ok (.istore_n 1, 1) := by decide +kernel
theorem dX6_readArm_118 : decode cX6_readArm 118 = .ok (.aload_n 0, 1) := by decide +kernel
theorem dX6_readArm_119 : decode cX6_readArm 119 = .ok (.getfield 12, 3) := by decide +kernel
theorem dX6_readArm_122 : decode cX6_readArm 122 = .ok (.getfield 43, 3) := by decide +kernel
theorem dX6_readArm_125 : decode cX6_readArm 125 = .ok (.iconst 4, 1) := by decide +kernel
theorem dX6_readArm_126 : decode cX6_readArm 126 = .ok (.if_icmp .ne 25, 3) := by decide +kernel
theorem dX6_readArm_129 : decode cX6_readArm 129 = .ok (.aload_n 0, 1) := by decide +kernel
theorem dX6_readArm_130 : decode cX6_readArm 130 = .ok (.getfield 12, 3) := by decide +kernel
theorem dX6_readArm_133 : decode cX6_readArm 133 = .ok (.invokevirtual 92, 3) := by decide +kernel
theorem dX6_readArm_136 : decode cX6_readArm 136 = .ok (.aload_n 0, 1) := by decide +kernel
theorem dX6_readArm_137 : decode cX6_readArm 137 = .ok (.iconst 0, 1) := by decide +kernel
theorem dX6_readArm_138 : decode cX6_readArm 138 = .ok (.bipush 7, 2) := by decide +kernel
theorem dX6_readArm_140 : decode cX6_readArm 140 = .ok (.invokevirtual 98, 3) := by decide +kernel
theorem dX6_readArm_143 : decode cX6_readArm 143 = .ok (.istore_n 1, 1) := by decide +kernel
theorem dX6_readArm_144 : decode cX6_readArm 144 = .ok (.iload_n 1, 1) := by decide +kernel
theorem dX6_readArm_145 : decode cX6_readArm 145 = .ok (.iconst (-1), 1) := by decide +kernel
theorem dX6_readArm_146 : decode cX6_readArm 146 = .ok (.if_icmp .ne 5, 3) := by decide +kernel
theorem dX6_readArm_149 : decode cX6_readArm 149 = .ok (.iconst 0, 1) := by decide +kernel
theorem dX6_readArm_150 : decode cX6_readArm 150 = .ok (.ireturn, 1) := by decide +kernel
theorem dX6_readArm_151 : decode cX6_readArm 151 = .ok (.aload_n 0, 1) := by decide +kernel
theorem dX6_readArm_152 : decode cX6_readArm 152 = .ok (.getfield 27, 3) := by decide +kernel
theorem dX6_readArm_155 : decode cX6_readArm 155 = .ok (.iload_n 1, 1) := by decide +kernel
theorem dX6_readArm_156 : decode cX6_readArm 156 = .ok (.invokevirtual 171, 3) := by decide +kernel
theorem dX6_readArm_159 : decode cX6_readArm 159 = .ok (.iconst 1, 1) := by decide +kernel
theorem dX6_readArm_160 : decode cX6_readArm 160 = .ok (.ireturn, 1) := by decide +kernel
theorem dX6_readPattern_0 : decode cX6_readPattern 0 = .ok (.iload_n 3, 1) := by decide +kernel
theorem dX6_readPattern_1 : decode cX6_readPattern 1 = .ok (.iconst 4, 1) := by decide +kernel
theorem dX6_readPattern_2 : decode cX6_readPattern 2 = .ok (.if_icmp .gt 16, 3) := by decide +kernel
theorem dX6_readPattern_5 : decode cX6_readPattern 5 = .ok (.iload_n 2, 1) := by decide +kernel
theorem dX6_readPattern_6 : decode cX6_readPattern 6 = .ok (.ifCond .lt 12, 3) := by decide +kernel
theorem dX6_readPattern_9 : decode cX6_readPattern 9 = .ok (.iload_n 2, 1) := by decide +kernel
theorem dX6_readPattern_10 : decode cX6_readPattern 10 = .ok (.aload_n 0, 1) := by decide +kernel
theorem dX6_readPattern_11 : decode cX6_readPattern 11 = .ok (.getfield 20, 3) := by decide +kernel
theorem dX6_readPattern_14 : decode cX6_readPattern 14 = .ok (.arraylength, 1) := by decide +kernel
theorem dX6_readPattern_15 : decode cX6_readPattern 15 = .ok (.if_icmp .lt 8, 3) := by decide +kernel
theorem dX6_readPattern_23 : decode cX6_readPattern 23 = .ok (.aload_n 0, 1) := by decide +kernel
theorem dX6_readPattern_24 : decode cX6_readPattern 24 = .ok (.getfield 20, 3) := by decide +kernel
theorem dX6_readPattern_27 : decode cX6_readPattern 27 = .ok (.iload_n 2, 1) := by decide +kernel
theorem dX6_readPattern_28 : decode cX6_readPattern 28 = .ok (.aaload, 1) := by decide +kernel
theorem dX6_readPattern_29 : decode cX6_readPattern 29 = .ok (.iconst 0, 1) := by decide +kernel
theorem dX6_readPattern_30 : decode cX6_readPattern 30 = .ok (.aload_n 0, 1) := by decide +kernel
theorem dX6_readPattern_31 : decode cX6_readPattern 31 = .ok (.getfield 27, 3) := by decide +kernel
theorem dX6_readPattern_34 : decode cX6_readPattern 34 = .ok (.getfield 108, 3) := by decide +kernel
theorem dX6_readPattern_37 : decode cX6_readPattern 37 = .ok (.iload_n 1, 1) := by decide +kernel
theorem dX6_readPattern_38 : decode cX6_readPattern 38 = .ok (.invokevirtual 146, 3) := by decide +kernel
theorem dX6_readPattern_41 : decode cX6_readPattern 41 = .ok (.iconst 1, 1) := by decide +kernel
theorem dX6_readPattern_42 : decode cX6_readPattern 42 = .ok (.isub, 1) := by decide +kernel
theorem dX6_readPattern_43 : decode cX6_readPattern 43 = .ok (.iconst 0, 1) := by decide +kernel
theorem dX6_readPattern_44 : decode cX6_readPattern 44 = .ok (.invokestatic 174, 3) := by decide +kernel
theorem dX6_readPattern_47 : decode cX6_readPattern 47 = .ok (.iconst 0, 1) := by decide +kernel
theorem dX6_readPattern_48 : decode cX6_readPattern 48 = .ok (.istore 4, 2) := by decide +kernel
theorem dX6_readPattern_50 : decode cX6_readPattern 50 = .ok (.iload 4, 2) := by decide +kernel
theorem dX6_readPattern_52 : decode cX6_readPattern 52 = .ok (.sipush 1600, 3) := by decide +kernel
theorem dX6_readPattern_55 : decode cX6_readPattern 55 = .ok (.if_icmp .gt 59, 3) := by decide +kernel
theorem dX6_readPattern_58 : decode cX6_readPattern 58 = .ok (.iload_n 1, 1) := by decide +kernel
theorem dX6_readPattern_59 : decode cX6_readPattern 59 = .ok (.iconst (-1), 1) := by decide +kernel
theorem dX6_readPattern_60 : decode cX6_readPattern 60 = .ok (.if_icmp .ne 11, 3) := by decide +kernel
theorem dX6_readPattern_63 : decode cX6_readPattern 63 = .ok (.aload_n 0, 1) := by decide +kernel
theorem dX6_readPattern_64 : decode cX6_readPattern 64 = .ok (.iload_n 2, 1) := by decide +kernel
theorem dX6_readPattern_65 : decode cX6_readPattern 65 = .ok (.invokevirtual 178, 3) := by decide +kernel
theorem dX6_readPattern_68 : decode cX6_readPattern 68 = .ok (.goto 10, 3) := by decide +kernel
theorem dX6_readPattern_71 : decode cX6_readPattern 71 = .ok (.aload_n 0, 1) := by decide +kernel
theorem dX6_readPattern_72 : decode cX6_readPattern 72 = .ok (.iload_n 1, 1) := by decide +kernel
theorem dX6_readPattern_73 : decode cX6_readPattern 73 = .ok (.iload_n 2, 1) := by decide +kernel
theorem dX6_readPattern_74 : decode cX6_readPattern 74 = .ok (.iload_n 3, 1) := by decide +kernel
theorem dX6_readPattern_75 : decode cX6_readPattern 75 = .ok (.invokestatic 181, 3) := by decide +kernel
theorem dX6_readPattern_78 : decode cX6_readPattern 78 = .ok (.istore 5, 2) := by decide +kernel
theorem dX6_readPattern_80 : decode cX6_readPattern 80 = .ok (.iload 5, 2) := by decide +kernel
theorem dX6_readPattern_82 : decode cX6_readPattern 82 = .ok (.ifCond .ne 5, 3) := by decide +kernel
theorem dX6_readPattern_85 : decode cX6_readPattern 85 = .ok (.iconst 0, 1) := by decide +kernel
theorem dX6_readPattern_86 : decode cX6_readPattern 86 = .ok (.ireturn, 1) := by decide +kernel
theorem dX6_readPattern_87 : decode cX6_readPattern 87 = .ok (.aload_n 0, 1) := by decide +kernel
theorem dX6_readPattern_88 : decode cX6_readPattern 88 = .ok (.getfield 12, 3) := by decide +kernel
theorem dX6_readPattern_91 : decode cX6_readPattern 91 = .ok (.getfield 43, 3) := by decide +kernel
theorem dX6_readPattern_94 : decode cX6_readPattern 94 = .ok (.bipush 9, 2) := by decide +kernel
theorem dX6_readPattern_96 : decode cX6_readPattern 96 = .ok (.if_icmp .eq 5, 3) := by decide +kernel
theorem dX6_readPattern_99 : decode cX6_readPattern 99 = .ok (.iconst 1, 1) := by decide +kernel
theorem dX6_readPattern_100 : decode cX6_readPattern 100 = .ok (.ireturn, 1) := by decide +kernel
theorem dX6_readPattern_101 : decode cX6_readPattern 101 = .ok (.aload_n 0, 1) := by decide +kernel
theorem dX6_readPattern_102 : decode cX6_readPattern 102 = .ok (.getfield 12, 3) := by decide +kernel
theorem dX6_readPattern_105 : decode cX6_readPattern 105 = .ok (.invokevirtual 92, 3) := by decide +kernel
theorem dX6_readPattern_108 : decode cX6_readPattern 108 = .ok (.iinc 4 1, 3) := by decide +kernel
theorem dX6_readPattern_111 : decode cX6_readPattern 111 = .ok (.goto (-61), 3) := by decide +kernel
theorem dX6_readRange_0 : decode cX6_readRange 0 = .ok (.aload_n 0, 1) := by decide +kernel
theorem dX6_readRange_1 : decode cX6_readRange 1 = .ok (.getfield 12, 3) := by decide +kernel
theorem dX6_readRange_4 : decode cX6_readRange 4 = .ok (.getfield 43, 3) := by decide +kernel
theorem dX6_readRange_7 : decode cX6_readRange 7 = .ok (.bipush 8, 2) := by decide +kernel
theorem dX6_readRange_9 : decode cX6_readRange 9 = .ok (.if_icmp .ne 25, 3) := by decide +kernel
theorem dX6_readRange_12 : decode cX6_readRange 12 = .ok (.aload_n 0, 1) := by decide +kernel
theorem dX6_readRange_13 : decode cX6_readRange 13 = .ok (.getfield 20, 3) := by decide +kernel
theorem dX6_readRange_16 : decode cX6_readRange 16 = .ok (.iload_n 1, 1) := by decide +kernel
theorem dX6_readRange_17 : decode cX6_readRange 17 = .ok (.aaload, 1) := by decide +kernel
theorem dX6_readRange_18 : decode cX6_readRange 18 = .ok (.iconst 0, 1) := by decide +kernel
theorem dX6_readRange_19 : decode cX6_readRange 19 = .ok (.bipush 19, 2) := by decide +kernel
theorem dX6_readRange_21 : decode cX6_readRange 21 = .ok (.iconst 1, 1) := by decide +kernel
theorem dX6_readRange_22 : decode cX6_readRange 22 = .ok (.invokestatic 174, 3) := by decide +kernel
theorem dX6_readRange_25 : decode cX6_readRange 25 = .ok (.aload_n 0, 1) := by decide +kernel
theorem dX6_readRange_26 : decode cX6_readRange 26 = .ok (.getfield 12, 3) := by decide +kernel
theorem dX6_readRange_29 : decode cX6_readRange 29 = .ok (.invokevirtual 92, 3) := by decide +kernel
theorem dX6_readRange_32 : decode cX6_readRange 32 = .ok (.iconst 1, 1) := by decide +kernel
theorem dX6_readRange_33 : decode cX6_readRange 33 = .ok (.ireturn, 1) := by decide +kernel
theorem dX6_readRange_34 : decode cX6_readRange 34 = .ok (.aload_n 0, 1) := by decide +kernel
theorem dX6_readRange_35 : decode cX6_readRange 35 = .ok (.iconst 0, 1) := by decide +kernel
theorem dX6_readRange_36 : decode cX6_readRange 36 = .ok (.bipush 19, 2) := by decide +kernel
theorem dX6_readRange_38 : decode cX6_readRange 38 = .ok (.invokevirtual 98, 3) := by decide +kernel
theorem dX6_readRange_41 : decode cX6_readRange 41 = .ok (.istore_n 2, 1) := by decide +kernel
theorem dX6_readRange_42 : decode cX6_readRange 42 = .ok (.iload_n 2, 1) := by decide +kernel
theorem dX6_readRange_43 : decode cX6_readRange 43 = .ok (.iconst (-1), 1) := by decide +kernel
theorem dX6_readRange_44 : decode cX6_readRange 44 = .ok (.if_icmp .ne 5, 3) := by decide +kernel
theorem dX6_readRange_47 : decode cX6_readRange 47 = .ok (.iconst 0, 1) := by decide +kernel
theorem dX6_readRange_48 : decode cX6_readRange 48 = .ok (.ireturn, 1) := by decide +kernel
theorem dX6_readRange_49 : decode cX6_readRange 49 = .ok (.iload_n 2, 1) := by decide +kernel
theorem dX6_readRange_50 : decode cX6_readRange 50 = .ok (.istore_n 3, 1) := by decide +kernel
theorem dX6_readRange_51 : decode cX6_readRange 51 = .ok (.aload_n 0, 1) := by decide +kernel
theorem dX6_readRange_52 : decode cX6_readRange 52 = .ok (.getfield 12, 3) := by decide +kernel
theorem dX6_readRange_55 : decode cX6_readRange 55 = .ok (.getfield 43, 3) := by decide +kernel
theorem dX6_readRange_58 : decode cX6_readRange 58 = .ok (.bipush 10, 2) := by decide +kernel
theorem dX6_readRange_60 : decode cX6_readRange 60 = .ok (.if_icmp .ne 25, 3) := by decide +kernel
theorem dX6_readRange_63 : decode cX6_readRange 63 = .ok (.aload_n 0, 1) := by decide +kernel
theorem dX6_readRange_64 : decode cX6_readRange 64 = .ok (.getfield 12, 3) := by decide +kernel
theorem dX6_readRange_67 : decode cX6_readRange 67 = .ok (.invokevirtual 92, 3) := by decide +kernel
theorem dX6_readRange_70 : decode cX6_readRange 70 = .ok (.aload_n 0, 1) := by decide +kernel
theorem dX6_readRange_71 : decode cX6_readRange 71 = .ok (.iload_n 2, 1) := by decide +kernel
theorem dX6_readRange_72 : decode cX6_readRange 72 = .ok (.bipush 19, 2) := by decide +kernel
theorem dX6_readRange_74 : decode cX6_readRange 74 = .ok (.invokevirtual 98, 3) := by decide +kernel
theorem dX6_readRange_77 : decode cX6_readRange 77 = .ok (.istore_n 3, 1) := by decide +kernel
theorem dX6_readRange_78 : decode cX6_readRange 78 = .ok (.iload_n 3, 1) := by decide +kernel
theorem dX6_readRange_79 : decode cX6_readRange 79 = .ok (.iconst (-1), 1) := by decide +kernel
theorem dX6_readRange_80 : decode cX6_readRange 80 = .ok (.if_icmp .ne 5, 3) := by decide +kernel
theorem dX6_readRange_83 : decode cX6_readRange 83 = .ok (.iconst 0, 1) := by decide +kernel
theorem dX6_readRange_84 : decode cX6_readRange 84 = .ok (.ireturn, 1) := by decide +kernel
theorem dX6_readRange_85 : decode cX6_readRange 85 = .ok (.aload_n 0, 1) := by decide +kernel
theorem dX6_readRange_86 : decode cX6_readRange 86 = .ok (.getfield 20, 3) := by decide +kernel
theorem dX6_readRange_89 : decode cX6_readRange 89 = .ok (.iload_n 1, 1) := by decide +kernel
theorem dX6_readRange_90 : decode cX6_readRange 90 = .ok (.aaload, 1) := by decide +kernel
theorem dX6_readRange_91 : decode cX6_readRange 91 = .ok (.iload_n 2, 1) := by decide +kernel
theorem dX6_readRange_92 : decode cX6_readRange 92 = .ok (.iload_n 3, 1) := by decide +kernel
theorem dX6_readRange_93 : decode cX6_readRange 93 = .ok (.iconst 1, 1) := by decide +kernel
theorem dX6_readRange_94 : decode cX6_readRange 94 = .ok (.invokestatic 174, 3) := by decide +kernel
theorem dX6_readRange_97 : decode cX6_readRange 97 = .ok (.iconst 1, 1) := by decide +kernel
theorem dX6_readRange_98 : decode cX6_readRange 98 = .ok (.ireturn, 1) := by decide +kernel
theorem dX6_readCase_0 : decode cX6_readCase 0 = .ok (.aload_n 0, 1) := by decide +kernel
theorem dX6_readCase_1 : decode cX6_readCase 1 = .ok (.getfield 27, 3) := by decide +kernel
theorem dX6_readCase_4 : decode cX6_readCase 4 = .ok (.getfield 108, 3) := by decide +kernel
theorem dX6_readCase_7 : decode cX6_readCase 7 = .ok (.astore 4, 2) := by decide +kernel
theorem dX6_readCase_9 : decode cX6_readCase 9 = .ok (.aload_n 0, 1) := by decide +kernel
theorem dX6_readCase_10 : decode cX6_readCase 10 = .ok (.getfield 12, 3) := by decide +kernel
theorem dX6_readCase_13 : decode cX6_readCase 13 = .ok (.getfield 43, 3) := by decide +kernel
theorem dX6_readCase_16 : decode cX6_readCase 16 = .ok (.bipush 8, 2) := by decide +kernel
theorem dX6_readCase_18 : decode cX6_readCase 18 = .ok (.if_icmp .ne 31, 3) := by decide +kernel
theorem dX6_readCase_21 : decode cX6_readCase 21 = .ok (.aload_n 0, 1) := by decide +kernel
theorem dX6_readCase_22 : decode cX6_readCase 22 = .ok (.getfield 20, 3) := by decide +kernel
theorem dX6_readCase_25 : decode cX6_readCase 25 = .ok (.iload_n 2, 1) := by decide +kernel
theorem dX6_readCase_26 : decode cX6_readCase 26 = .ok (.aaload, 1) := by decide +kernel
theorem dX6_readCase_27 : decode cX6_readCase 27 = .ok (.iconst 0, 1) := by decide +kernel
theorem dX6_readCase_28 : decode cX6_readCase 28 = .ok (.aload 4, 2) := by decide +kernel
theorem dX6_readCase_30 : decode cX6_readCase 30 = .ok (.iload_n 1, 1) := by decide +kernel
theorem dX6_readCase_31 : decode cX6_readCase 31 = .ok (.invokevirtual 146, 3) := by decide +kernel
theorem dX6_readCase_34 : decode cX6_readCase 34 = .ok (.iconst 1, 1) := by decide +kernel
theorem dX6_readCase_35 : decode cX6_readCase 35 = .ok (.isub, 1) := by decide +kernel
theorem dX6_readCase_36 : decode cX6_readCase 36 = .ok (.iconst 1, 1) := by decide +kernel
theorem dX6_readCase_37 : decode cX6_readCase 37 = .ok (.invokestatic 174, 3) := by decide +kernel
theorem dX6_readCase_40 : decode cX6_readCase 40 = .ok (.aload_n 0, 1) := by decide +kernel
theorem dX6_readCase_41 : decode cX6_readCase 41 = .ok (.getfield 12, 3) := by decide +kernel
theorem dX6_readCase_44 : decode cX6_readCase 44 = .ok (.invokevirtual 92, 3) := by decide +kernel
theorem dX6_readCase_47 : decode cX6_readCase 47 = .ok (.iconst 1, 1) := by decide +kernel
theorem dX6_readCase_48 : decode cX6_readCase 48 = .ok (.ireturn, 1) := by decide +kernel
theorem dX6_readCase_49 : decode cX6_readCase 49 = .ok (.aload_n 0, 1) := by decide +kernel
theorem dX6_readCase_50 : decode cX6_readCase 50 = .ok (.iload_n 1, 1) := by decide +kernel
theorem dX6_readCase_51 : decode cX6_readCase 51 = .ok (.invokevirtual 184, 3) := by decide +kernel
theorem dX6_readCase_54 : decode cX6_readCase 54 = .ok (.istore 5, 2) := by decide +kernel
theorem dX6_readCase_56 : decode cX6_readCase 56 = .ok (.iload 5, 2) := by decide +kernel
theorem dX6_readCase_58 : decode cX6_readCase 58 = .ok (.iconst (-1), 1) := by decide +kernel
theorem dX6_readCase_59 : decode cX6_readCase 59 = .ok (.if_icmp .ne 5, 3) := by decide +kernel
theorem dX6_readCase_62 : decode cX6_readCase 62 = .ok (.iconst 0, 1) := by decide +kernel
theorem dX6_readCase_63 : decode cX6_readCase 63 = .ok (.ireturn, 1) := by decide +kernel
theorem dX6_readCase_64 : decode cX6_readCase 64 = .ok (.aload 4, 2) := by decide +kernel
theorem dX6_readCase_66 : decode cX6_readCase 66 = .ok (.getfield 187, 3) := by decide +kernel
theorem dX6_readCase_69 : decode cX6_readCase 69 = .ok (.iload 5, 2) := by decide +kernel
theorem dX6_readCase_71 : decode cX6_readCase 71 = .ok (.iaload, 1) := by decide +kernel
theorem dX6_readCase_72 : decode cX6_readCase 72 = .ok (.ifCond .ne 31, 3) := by decide +kernel
theorem dX6_readCase_75 : decode cX6_readCase 75 = .ok (.aload_n 0, 1) := by decide +kernel
theorem dX6_readCase_76 : decode cX6_readCase 76 = .ok (.getfield 20, 3) := by decide +kernel
theorem dX6_readCase_79 : decode cX6_readCase 79 = .ok (.iload_n 2, 1) := by decide +kernel
theorem dX6_readCase_80 : decode cX6_readCase 80 = .ok (.aaload, 1) := by decide +kernel
theorem dX6_readCase_81 : decode cX6_readCase 81 = .ok (.aload 4, 2) := by decide +kernel
theorem dX6_readCase_83 : decode cX6_readCase 83 = .ok (.getfield 190, 3) := by decide +kernel
theorem dX6_readCase_86 : decode cX6_readCase 86 = .ok (.iload 5, 2) := by decide +kernel
theorem dX6_readCase_88 : decode cX6_readCase 88 = .ok (.iaload, 1) := by decide +kernel
theorem dX6_readCase_89 : decode cX6_readCase 89 = .ok (.aload 4, 2) := by decide +kernel
theorem dX6_readCase_91 : decode cX6_readCase 91 = .ok (.getfield 190, 3) := by decide +kernel
theorem dX6_readCase_94 : decode cX6_readCase 94 = .ok (.iload 5, 2) := by decide +kernel
theorem dX6_readCase_96 : decode cX6_readCase 96 = .ok (.iaload, 1) := by decide +kernel
theorem dX6_readCase_97 : decode cX6_readCase 97 = .ok (.iconst 1, 1) := by decide +kernel
theorem dX6_readCase_98 : decode cX6_readCase 98 = .ok (.invokestatic 174, 3) := by decide +kernel
theorem dX6_readCase_101 : decode cX6_readCase 101 = .ok (.iconst 1, 1) := by decide +kernel
theorem dX6_readCase_102 : decode cX6_readCase 102 = .ok (.ireturn, 1) := by decide +kernel
theorem dX6_readCase_103 : decode cX6_readCase 103 = .ok (.iconst 2, 1) := by decide +kernel
theorem dX6_readCase_104 : decode cX6_readCase 104 = .ok (.iload_n 3, 1) := by decide +kernel
theorem dX6_readCase_105 : decode cX6_readCase 105 = .ok (.iconst 1, 1) := by decide +kernel
theorem dX6_readCase_106 : decode cX6_readCase 106 = .ok (.iadd, 1) := by decide +kernel
theorem dX6_readCase_107 : decode cX6_readCase 107 = .ok (.imul, 1) := by decide +kernel
theorem dX6_readCase_108 : decode cX6_readCase 108 = .ok (.istore 6, 2) := by decide +kernel
theorem dX6_readCase_110 : decode cX6_readCase 110 = .ok (.aload_n 0, 1) := by decide +kernel
theorem dX6_readCase_111 : decode cX6_readCase 111 = .ok (.bipush 40, 2) := by decide +kernel
theorem dX6_readCase_113 : decode cX6_readCase 113 = .ok (.invokevirtual 68, 3) := by decide +kernel
theorem dX6_readCase_116 : decode cX6_readCase 116 = .ok (.ifCond .eq 23, 3) := by decide +kernel
theorem dX6_readCase_119 : decode cX6_readCase 119 = .ok (.aload_n 0, 1) := by decide +kernel
theorem dX6_readCase_120 : decode cX6_readCase 120 = .ok (.aload 4, 2) := by decide +kernel
theorem dX6_readCase_122 : decode cX6_readCase 122 = .ok (.getfield 193, 3) := by decide +kernel
theorem dX6_readCase_125 : decode cX6_readCase 125 = .ok (.iload 5, 2) := by decide +kernel
theorem dX6_readCase_127 : decode cX6_readCase 127 = .ok (.iaload, 1) := by decide +kernel
theorem dX6_readCase_128 : decode cX6_readCase 128 = .ok (.iload 6, 2) := by decide +kernel
theorem dX6_readCase_130 : decode cX6_readCase 130 = .ok (.iload_n 3, 1) := by decide +kernel
theorem dX6_readCase_131 : decode cX6_readCase 131 = .ok (.iconst 1, 1) := by decide +kernel
theorem dX6_readCase_132 : decode cX6_readCase 132 = .ok (.iadd, 1) := by decide +kernel
theorem dX6_readCase_133 : decode cX6_readCase 133 = .ok (.invokestatic 163, 3) := by decide +kernel
theorem dX6_readCase_136 : decode cX6_readCase 136 = .ok (.ifCond .ne 5, 3) := by decide +kernel
theorem dX6_readCase_139 : decode cX6_readCase 139 = .ok (.iconst 0, 1) := by decide +kernel
theorem dX6_readCase_140 : decode cX6_readCase 140 = .ok (.ireturn, 1) := by decide +kernel
theorem dX6_readCase_141 : decode cX6_readCase 141 = .ok (.aload 4, 2) := by decide +kernel
theorem dX6_readCase_143 : decode cX6_readCase 143 = .ok (.getfield 187, 3) := by decide +kernel
theorem dX6_readCase_146 : decode cX6_readCase 146 = .ok (.iload 5, 2) := by decide +kernel
theorem dX6_readCase_148 : decode cX6_readCase 148 = .ok (.iaload, 1) := by decide +kernel
theorem dX6_readCase_149 : decode cX6_readCase 149 = .ok (.iconst 2, 1) := by decide +kernel
theorem dX6_readCase_150 : decode cX6_readCase 150 = .ok (.if_icmp .ne 36, 3) := by decide +kernel
theorem dX6_readCase_153 : decode cX6_readCase 153 = .ok (.aload_n 0, 1) := by decide +kernel
theorem dX6_readCase_154 : decode cX6_readCase 154 = .ok (.bipush 44, 2) := by decide +kernel
theorem dX6_readCase_156 : decode cX6_readCase 156 = .ok (.invokevirtual 68, 3) := by decide +kernel
theorem dX6_readCase_159 : decode cX6_readCase 159 = .ok (.ifCond .eq 25, 3) := by decide +kernel
theorem dX6_readCase_162 : decode cX6_readCase 162 = .ok (.aload_n 0, 1) := by decide +kernel
theorem dX6_readCase_163 : decode cX6_readCase 163 = .ok (.aload 4, 2) := by decide +kernel
theorem dX6_readCase_165 : decode cX6_readCase 165 = .ok (.getfield 196, 3) := by decide +kernel
theorem dX6_readCase_168 : decode cX6_readCase 168 = .ok (.iload 5, 2) := by decide +kernel
theorem dX6_readCase_170 : decode cX6_readCase 170 = .ok (.iaload, 1) := by decide +kernel
theorem dX6_readCase_171 : decode cX6_readCase 171 = .ok (.iload 6, 2) := by decide +kernel
theorem dX6_readCase_173 : decode cX6_readCase 173 = .ok (.iconst 1, 1) := by decide +kernel
theorem dX6_readCase_174 : decode cX6_readCase 174 = .ok (.iadd, 1) := by decide +kernel
theorem dX6_readCase_175 : decode cX6_readCase 175 = .ok (.iload_n 3, 1) := by decide +kernel
theorem dX6_readCase_176 : decode cX6_readCase 176 = .ok (.iconst 1, 1) := by decide +kernel
theorem dX6_readCase_177 : decode cX6_readCase 177 = .ok (.iadd, 1) := by decide +kernel
theorem dX6_readCase_178 : decode cX6_readCase 178 = .ok (.invokestatic 163, 3) := by decide +kernel
theorem dX6_readCase_181 : decode cX6_readCase 181 = .ok (.ifCond .ne 5, 3) := by decide +kernel
theorem dX6_readCase_184 : decode cX6_readCase 184 = .ok (.iconst 0, 1) := by decide +kernel
theorem dX6_readCase_185 : decode cX6_readCase 185 = .ok (.ireturn, 1) := by decide +kernel
theorem dX6_readCase_186 : decode cX6_readCase 186 = .ok (.aload_n 0, 1) := by decide +kernel
theorem dX6_readCase_187 : decode cX6_readCase 187 = .ok (.iload 5, 2) := by decide +kernel
theorem dX6_readCase_189 : decode cX6_readCase 189 = .ok (.iload_n 2, 1) := by decide +kernel
theorem dX6_readCase_190 : decode cX6_readCase 190 = .ok (.iload 6, 2) := by decide +kernel
theorem dX6_readCase_192 : decode cX6_readCase 192 = .ok (.invokevirtual 199, 3) := by decide +kernel
theorem dX6_readCase_195 : decode cX6_readCase 195 = .ok (.aload_n 0, 1) := by decide +kernel
theorem dX6_readCase_196 : decode cX6_readCase 196 = .ok (.bipush 41, 2) := by decide +kernel
theorem dX6_readCase_198 : decode cX6_readCase 198 = .ok (.invokevirtual 68, 3) := by decide +kernel
theorem dX6_readCase_201 : decode cX6_readCase 201 = .ok (.ireturn, 1) := by decide +kernel
theorem dX6_readConName_0 : decode cX6_readConName 0 = .ok (.aload_n 0, 1) := by decide +kernel
theorem dX6_readConName_1 : decode cX6_readConName 1 = .ok (.getfield 12, 3) := by decide +kernel
theorem dX6_readConName_4 : decode cX6_readConName 4 = .ok (.invokevirtual 123, 3) := by decide +kernel
theorem dX6_readConName_7 : decode cX6_readConName 7 = .ok (.ifCond .ne 10, 3) := by decide +kernel
theorem dX6_readConName_10 : decode cX6_readConName 10 = .ok (.aload_n 0, 1) := by decide +kernel
theorem dX6_readConName_11 : decode cX6_readConName 11 = .ok (.invokevirtual 65, 3) := by decide +kernel
theorem dX6_readConName_14 : decode cX6_readConName 14 = .ok (.pop, 1) := by decide +kernel
theorem dX6_readConName_15 : decode cX6_readConName 15 = .ok (.iconst (-1), 1) := by decide +kernel
theorem dX6_readConName_16 : decode cX6_readConName 16 = .ok (.ireturn, 1) := by decide +kernel
theorem dX6_readConName_17 : decode cX6_readConName 17 = .ok (.aload_n 0, 1) := by decide +kernel
theorem dX6_readConName_18 : decode cX6_readConName 18 = .ok (.getfield 27, 3) := by decide +kernel
theorem dX6_readConName_21 : decode cX6_readConName 21 = .ok (.getfield 108, 3) := by decide +kernel
theorem dX6_readConName_24 : decode cX6_readConName 24 = .ok (.iload_n 1, 1) := by decide +kernel
theorem dX6_readConName_25 : decode cX6_readConName 25 = .ok (.aload_n 0, 1) := by decide +kernel
theorem dX6_readConName_26 : decode cX6_readConName 26 = .ok (.getfield 12, 3) := by decide +kernel
theorem dX6_readConName_29 : decode cX6_readConName 29 = .ok (.getfield 95, 3) := by decide +kernel
theorem dX6_readConName_32 : decode cX6_readConName 32 = .ok (.invokevirtual 203, 3) := by decide +kernel
theorem dX6_readConName_35 : decode cX6_readConName 35 = .ok (.istore_n 2, 1) := by decide +kernel
theorem dX6_readConName_36 : decode cX6_readConName 36 = .ok (.iload_n 2, 1) := by decide +kernel
theorem dX6_readConName_37 : decode cX6_readConName 37 = .ok (.iconst (-1), 1) := by decide +kernel
theorem dX6_readConName_38 : decode cX6_readConName 38 = .ok (.if_icmp .ne 18, 3) := by decide +kernel
theorem dX6_readConName_41 : decode cX6_readConName 41 = .ok (.aload_n 0, 1) := by decide +kernel
theorem dX6_readConName_42 : decode cX6_readConName 42 = .ok (.iconst 3, 1) := by decide +kernel
theorem dX6_readConName_43 : decode cX6_readConName 43 = .ok (.aload_n 0, 1) := by decide +kernel
theorem dX6_readConName_44 : decode cX6_readConName 44 = .ok (.getfield 12, 3) := by decide +kernel
theorem dX6_readConName_47 : decode cX6_readConName 47 = .ok (.getfield 72, 3) := by decide +kernel
theorem dX6_readConName_50 : decode cX6_readConName 50 = .ok (.invokevirtual 75, 3) := by decide +kernel
theorem dX6_readConName_53 : decode cX6_readConName 53 = .ok (.pop, 1) := by decide +kernel
theorem dX6_readConName_54 : decode cX6_readConName 54 = .ok (.iconst (-1), 1) := by decide +kernel
theorem dX6_readConName_55 : decode cX6_readConName 55 = .ok (.ireturn, 1) := by decide +kernel
theorem dX6_readConName_56 : decode cX6_readConName 56 = .ok (.aload_n 0, 1) := by decide +kernel
theorem dX6_readConName_57 : decode cX6_readConName 57 = .ok (.getfield 12, 3) := by decide +kernel
theorem dX6_readConName_60 : decode cX6_readConName 60 = .ok (.invokevirtual 92, 3) := by decide +kernel
theorem dX6_readConName_63 : decode cX6_readConName 63 = .ok (.iload_n 2, 1) := by decide +kernel
theorem dX6_readConName_64 : decode cX6_readConName 64 = .ok (.ireturn, 1) := by decide +kernel
theorem dX6_fillCase_0 : decode cX6_fillCase 0 = .ok (.iload_n 3, 1) := by decide +kernel
theorem dX6_fillCase_1 : decode cX6_fillCase 1 = .ok (.ifCond .lt 14, 3) := by decide +kernel
theorem dX6_fillCase_4 : decode cX6_fillCase 4 = .ok (.iload_n 3, 1) := by decide +kernel
theorem dX6_fillCase_5 : decode cX6_fillCase 5 = .ok (.iconst 1, 1) := by decide +kernel
theorem dX6_fillCase_6 : decode cX6_fillCase 6 = .ok (.iadd, 1) := by decide +kernel
theorem dX6_fillCase_7 : decode cX6_fillCase 7 = .ok (.aload_n 0, 1) := by decide +kernel
theorem dX6_fillCase_8 : decode cX6_fillCase 8 = .ok (.getfield 20, 3) := by decide +kernel
theorem dX6_fillCase_11 : decode cX6_fillCase 11 = .ok (.arraylength, 1) := by decide +kernel
theorem dX6_fillCase_12 : decode cX6_fillCase 12 = .ok (.if_icmp .lt 4, 3) := by decide +kernel
theorem dX6_fillCase_15 : decode cX6_fillCase 15 = .ok (.return_, 1) := by decide +kernel
theorem dX6_fillCase_16 : decode cX6_fillCase 16 = .ok (.aload_n 0, 1) := by decide +kernel
theorem dX6_fillCase_17 : decode cX6_fillCase 17 = .ok (.getfield 27, 3) := by decide +kernel
theorem dX6_fillCase_20 : decode cX6_fillCase 20 = .ok (.getfield 108, 3) := by decide +kernel
theorem dX6_fillCase_23 : decode cX6_fillCase 23 = .ok (.astore 4, 2) := by decide +kernel
theorem dX6_fillCase_25 : decode cX6_fillCase 25 = .ok (.aload 4, 2) := by decide +kernel
theorem dX6_fillCase_27 : decode cX6_fillCase 27 = .ok (.aload 4, 2) := by decide +kernel
theorem dX6_fillCase_29 : decode cX6_fillCase 29 = .ok (.getfield 193, 3) := by decide +kernel
theorem dX6_fillCase_32 : decode cX6_fillCase 32 = .ok (.iload_n 1, 1) := by decide +kernel
theorem dX6_fillCase_33 : decode cX6_fillCase 33 = .ok (.iaload, 1) := by decide +kernel
theorem dX6_fillCase_34 : decode cX6_fillCase 34 = .ok (.invokevirtual 146, 3) := by decide +kernel
theorem dX6_fillCase_37 : decode cX6_fillCase 37 = .ok (.istore 5, 2) := by decide +kernel
theorem dX6_fillCase_39 : decode cX6_fillCase 39 = .ok (.aload 4, 2) := by decide +kernel
theorem dX6_fillCase_41 : decode cX6_fillCase 41 = .ok (.iload_n 1, 1) := by decide +kernel
theorem dX6_fillCase_42 : decode cX6_fillCase 42 = .ok (.invokevirtual 206, 3) := by decide +kernel
theorem dX6_fillCase_45 : decode cX6_fillCase 45 = .ok (.istore 6, 2) := by decide +kernel
theorem dX6_fillCase_47 : decode cX6_fillCase 47 = .ok (.aload 4, 2) := by decide +kernel
theorem dX6_fillCase_49 : decode cX6_fillCase 49 = .ok (.getfield 187, 3) := by decide +kernel
theorem dX6_fillCase_52 : decode cX6_fillCase 52 = .ok (.iload_n 1, 1) := by decide +kernel
theorem dX6_fillCase_53 : decode cX6_fillCase 53 = .ok (.iaload, 1) := by decide +kernel
theorem dX6_fillCase_54 : decode cX6_fillCase 54 = .ok (.iconst 2, 1) := by decide +kernel
theorem dX6_fillCase_55 : decode cX6_fillCase 55 = .ok (.if_icmp .ge 7, 3) := by decide +kernel
theorem dX6_fillCase_58 : decode cX6_fillCase 58 = .ok (.iconst 1, 1) := by decide +kernel
theorem dX6_fillCase_59 : decode cX6_fillCase 59 = .ok (.goto 4, 3) := by decide +kernel
theorem dX6_fillCase_62 : decode cX6_fillCase 62 = .ok (.iconst 0, 1) := by decide +kernel
theorem dX6_fillCase_63 : decode cX6_fillCase 63 = .ok (.istore 7, 2) := by decide +kernel
theorem dX6_fillCase_65 : decode cX6_fillCase 65 = .ok (.iconst 0, 1) := by decide +kernel
theorem dX6_fillCase_66 : decode cX6_fillCase 66 = .ok (.istore 8, 2) := by decide +kernel
theorem dX6_fillCase_68 : decode cX6_fillCase 68 = .ok (.iload 8, 2) := by decide +kernel
theorem dX6_fillCase_70 : decode cX6_fillCase 70 = .ok (.iload 5, 2) := by decide +kernel
theorem dX6_fillCase_72 : decode cX6_fillCase 72 = .ok (.if_icmp .ge 110, 3) := by decide +kernel
theorem dX6_fillCase_75 : decode cX6_fillCase 75 = .ok (.iload 8, 2) := by decide +kernel
theorem dX6_fillCase_77 : decode cX6_fillCase 77 = .ok (.sipush 2048, 3) := by decide +kernel
theorem dX6_fillCase_80 : decode cX6_fillCase 80 = .ok (.if_icmp .ge 102, 3) := by decide +kernel
theorem dX6_fillCase_83 : decode cX6_fillCase 83 = .ok (.aload_n 0, 1) := by decide +kernel
theorem dX6_fillCase_84 : decode cX6_fillCase 84 = .ok (.getfield 20, 3) := by decide +kernel
theorem dX6_fillCase_87 : decode cX6_fillCase 87 = .ok (.iload_n 3, 1) := by decide +kernel
theorem dX6_fillCase_88 : decode cX6_fillCase 88 = .ok (.aaload, 1) := by decide +kernel
theorem dX6_fillCase_89 : decode cX6_fillCase 89 = .ok (.iload 8, 2) := by decide +kernel
theorem dX6_fillCase_91 : decode cX6_fillCase 91 = .ok (.iaload, 1) := by decide +kernel
theorem dX6_fillCase_92 : decode cX6_fillCase 92 = .ok (.ifCond .ne 6, 3) := by decide +kernel
theorem dX6_fillCase_95 : decode cX6_fillCase 95 = .ok (.goto 81, 3) := by decide +kernel
theorem dX6_fillCase_98 : decode cX6_fillCase 98 = .ok (.aload 4, 2) := by decide +kernel
theorem dX6_fillCase_100 : decode cX6_fillCase 100 = .ok (.getfield 190, 3) := by decide +kernel
theorem dX6_fillCase_103 : decode cX6_fillCase 103 = .ok (.iload_n 1, 1) := by decide +kernel
theorem dX6_fillCase_104 : decode cX6_fillCase 104 = .ok (.iaload, 1) := by decide +kernel
theorem dX6_fillCase_105 : decode cX6_fillCase 105 = .ok (.iload 8, 2) := by decide +kernel
theorem dX6_fillCase_107 : decode cX6_fillCase 107 = .ok (.iload 6, 2) := by decide +kernel
theorem dX6_fillCase_109 : decode cX6_fillCase 109 = .ok (.imul, 1) := by decide +kernel
theorem dX6_fillCase_110 : decode cX6_fillCase 110 = .ok (.iadd, 1) := by decide +kernel
theorem dX6_fillCase_111 : decode cX6_fillCase 111 = .ok (.istore 9, 2) := by decide +kernel
theorem dX6_fillCase_113 : decode cX6_fillCase 113 = .ok (.iconst 0, 1) := by decide +kernel
theorem dX6_fillCase_114 : decode cX6_fillCase 114 = .ok (.istore 10, 2) := by decide +kernel
theorem dX6_fillCase_116 : decode cX6_fillCase 116 = .ok (.iload 10, 2) := by decide +kernel
theorem dX6_fillCase_118 : decode cX6_fillCase 118 = .ok (.iload 6, 2) := by decide +kernel
theorem dX6_fillCase_120 : decode cX6_fillCase 120 = .ok (.if_icmp .ge 56, 3) := by decide +kernel
end
section
theorem dX6_fillCase_123 : decode cX6_fillCase 123 = .ok (.iload 10, 2) := by decide +kernel
theorem dX6_fillCase_125 : decode cX6_fillCase 125 = .ok (.sipush 2048, 3) := by decide +kernel
theorem dX6_fillCase_128 : decode cX6_fillCase 128 = .ok (.if_icmp .ge 48, 3) := by decide +kernel
theorem dX6_fillCase_131 : decode cX6_fillCase 131 = .ok (.iload 7, 2) := by decide +kernel
theorem dX6_fillCase_133 : decode cX6_fillCase 133 = .ok (.ifCond .ne 17, 3) := by decide +kernel
theorem dX6_fillCase_136 : decode cX6_fillCase 136 = .ok (.aload_n 0, 1) := by decide +kernel
theorem dX6_fillCase_137 : decode cX6_fillCase 137 = .ok (.getfield 20, 3) := by decide +kernel
theorem dX6_fillCase_140 : decode cX6_fillCase 140 = .ok (.iload_n 3, 1) := by decide +kernel
theorem dX6_fillCase_141 : decode cX6_fillCase 141 = .ok (.iconst 1, 1) := by decide +kernel
theorem dX6_fillCase_142 : decode cX6_fillCase 142 = .ok (.iadd, 1) := by decide +kernel
theorem dX6_fillCase_143 : decode cX6_fillCase 143 = .ok (.aaload, 1) := by decide +kernel
theorem dX6_fillCase_144 : decode cX6_fillCase 144 = .ok (.iload 10, 2) := by decide +kernel
theorem dX6_fillCase_146 : decode cX6_fillCase 146 = .ok (.iaload, 1) := by decide +kernel
theorem dX6_fillCase_147 : decode cX6_fillCase 147 = .ok (.ifCond .eq 23, 3) := by decide +kernel
theorem dX6_fillCase_150 : decode cX6_fillCase 150 = .ok (.aload_n 0, 1) := by decide +kernel
theorem dX6_fillCase_151 : decode cX6_fillCase 151 = .ok (.getfield 20, 3) := by decide +kernel
theorem dX6_fillCase_154 : decode cX6_fillCase 154 = .ok (.iload_n 2, 1) := by decide +kernel
theorem dX6_fillCase_155 : decode cX6_fillCase 155 = .ok (.aaload, 1) := by decide +kernel
theorem dX6_fillCase_156 : decode cX6_fillCase 156 = .ok (.iload 9, 2) := by decide +kernel
theorem dX6_fillCase_158 : decode cX6_fillCase 158 = .ok (.iload 10, 2) := by decide +kernel
theorem dX6_fillCase_160 : decode cX6_fillCase 160 = .ok (.iadd, 1) := by decide +kernel
theorem dX6_fillCase_161 : decode cX6_fillCase 161 = .ok (.iload 9, 2) := by decide +kernel
theorem dX6_fillCase_163 : decode cX6_fillCase 163 = .ok (.iload 10, 2) := by decide +kernel
theorem dX6_fillCase_165 : decode cX6_fillCase 165 = .ok (.iadd, 1) := by decide +kernel
theorem dX6_fillCase_166 : decode cX6_fillCase 166 = .ok (.iconst 1, 1) := by decide +kernel
theorem dX6_fillCase_167 : decode cX6_fillCase 167 = .ok (.invokestatic 174, 3) := by decide +kernel
theorem dX6_fillCase_170 : decode cX6_fillCase 170 = .ok (.iinc 10 1, 3) := by decide +kernel
theorem dX6_fillCase_173 : decode cX6_fillCase 173 = .ok (.goto (-57), 3) := by decide +kernel
theorem dX6_fillCase_176 : decode cX6_fillCase 176 = .ok (.iinc 8 1, 3) := by decide +kernel
theorem dX6_fillCase_179 : decode cX6_fillCase 179 = .ok (.goto (-111), 3) := by decide +kernel
theorem dX6_fillCase_182 : decode cX6_fillCase 182 = .ok (.return_, 1) := by decide +kernel
theorem dX6_fill_0 : decode cX6_fill 0 = .ok (.iload_n 1, 1) := by decide +kernel
theorem dX6_fill_1 : decode cX6_fill 1 = .ok (.iconst 0, 1) := by decide +kernel
theorem dX6_fill_2 : decode cX6_fill 2 = .ok (.invokestatic 209, 3) := by decide +kernel
theorem dX6_fill_5 : decode cX6_fill 5 = .ok (.istore 4, 2) := by decide +kernel
theorem dX6_fill_7 : decode cX6_fill 7 = .ok (.iload 4, 2) := by decide +kernel
theorem dX6_fill_9 : decode cX6_fill 9 = .ok (.iload_n 2, 1) := by decide +kernel
theorem dX6_fill_10 : decode cX6_fill 10 = .ok (.if_icmp .gt 21, 3) := by decide +kernel
theorem dX6_fill_13 : decode cX6_fill 13 = .ok (.iload 4, 2) := by decide +kernel
theorem dX6_fill_15 : decode cX6_fill 15 = .ok (.aload_n 0, 1) := by decide +kernel
theorem dX6_fill_16 : decode cX6_fill 16 = .ok (.arraylength, 1) := by decide +kernel
theorem dX6_fill_17 : decode cX6_fill 17 = .ok (.if_icmp .ge 14, 3) := by decide +kernel
theorem dX6_fill_20 : decode cX6_fill 20 = .ok (.aload_n 0, 1) := by decide +kernel
theorem dX6_fill_21 : decode cX6_fill 21 = .ok (.iload 4, 2) := by decide +kernel
theorem dX6_fill_23 : decode cX6_fill 23 = .ok (.iload_n 3, 1) := by decide +kernel
theorem dX6_fill_24 : decode cX6_fill 24 = .ok (.iastore, 1) := by decide +kernel
theorem dX6_fill_25 : decode cX6_fill 25 = .ok (.iinc 4 1, 3) := by decide +kernel
theorem dX6_fill_28 : decode cX6_fill 28 = .ok (.goto (-21), 3) := by decide +kernel
theorem dX6_fill_31 : decode cX6_fill 31 = .ok (.return_, 1) := by decide +kernel
theorem dX6_readRow_0 : decode cX6_readRow 0 = .ok (.aload_n 0, 1) := by decide +kernel
theorem dX6_readRow_1 : decode cX6_readRow 1 = .ok (.aload_n 2, 1) := by decide +kernel
theorem dX6_readRow_2 : decode cX6_readRow 2 = .ok (.putfield 27, 3) := by decide +kernel
theorem dX6_readRow_5 : decode cX6_readRow 5 = .ok (.aload_n 0, 1) := by decide +kernel
theorem dX6_readRow_6 : decode cX6_readRow 6 = .ok (.aload_n 1, 1) := by decide +kernel
theorem dX6_readRow_7 : decode cX6_readRow 7 = .ok (.invokevirtual 36, 3) := by decide +kernel
theorem dX6_readRow_10 : decode cX6_readRow 10 = .ok (.aload_n 0, 1) := by decide +kernel
theorem dX6_readRow_11 : decode cX6_readRow 11 = .ok (.getfield 27, 3) := by decide +kernel
theorem dX6_readRow_14 : decode cX6_readRow 14 = .ok (.getfield 79, 3) := by decide +kernel
theorem dX6_readRow_17 : decode cX6_readRow 17 = .ok (.ifCond .ne 12, 3) := by decide +kernel
theorem dX6_readRow_20 : decode cX6_readRow 20 = .ok (.aload_n 0, 1) := by decide +kernel
theorem dX6_readRow_21 : decode cX6_readRow 21 = .ok (.iconst 1, 1) := by decide +kernel
theorem dX6_readRow_22 : decode cX6_readRow 22 = .ok (.iconst 0, 1) := by decide +kernel
theorem dX6_readRow_23 : decode cX6_readRow 23 = .ok (.invokevirtual 75, 3) := by decide +kernel
theorem dX6_readRow_26 : decode cX6_readRow 26 = .ok (.pop, 1) := by decide +kernel
theorem dX6_readRow_27 : decode cX6_readRow 27 = .ok (.iconst (-1), 1) := by decide +kernel
theorem dX6_readRow_28 : decode cX6_readRow 28 = .ok (.ireturn, 1) := by decide +kernel
theorem dX6_readRow_29 : decode cX6_readRow 29 = .ok (.iconst 0, 1) := by decide +kernel
theorem dX6_readRow_30 : decode cX6_readRow 30 = .ok (.istore_n 3, 1) := by decide +kernel
theorem dX6_readRow_31 : decode cX6_readRow 31 = .ok (.iconst 0, 1) := by decide +kernel
theorem dX6_readRow_32 : decode cX6_readRow 32 = .ok (.istore 4, 2) := by decide +kernel
theorem dX6_readRow_34 : decode cX6_readRow 34 = .ok (.iload 4, 2) := by decide +kernel
theorem dX6_readRow_36 : decode cX6_readRow 36 = .ok (.aload_n 0, 1) := by decide +kernel
theorem dX6_readRow_37 : decode cX6_readRow 37 = .ok (.getfield 27, 3) := by decide +kernel
theorem dX6_readRow_40 : decode cX6_readRow 40 = .ok (.getfield 79, 3) := by decide +kernel
theorem dX6_readRow_43 : decode cX6_readRow 43 = .ok (.if_icmp .ge 66, 3) := by decide +kernel
theorem dX6_readRow_46 : decode cX6_readRow 46 = .ok (.iload 4, 2) := by decide +kernel
theorem dX6_readRow_48 : decode cX6_readRow 48 = .ok (.ifCond .le 14, 3) := by decide +kernel
theorem dX6_readRow_51 : decode cX6_readRow 51 = .ok (.aload_n 0, 1) := by decide +kernel
theorem dX6_readRow_52 : decode cX6_readRow 52 = .ok (.bipush 44, 2) := by decide +kernel
theorem dX6_readRow_54 : decode cX6_readRow 54 = .ok (.invokevirtual 68, 3) := by decide +kernel
theorem dX6_readRow_57 : decode cX6_readRow 57 = .ok (.ifCond .ne 5, 3) := by decide +kernel
theorem dX6_readRow_60 : decode cX6_readRow 60 = .ok (.iconst (-1), 1) := by decide +kernel
theorem dX6_readRow_61 : decode cX6_readRow 61 = .ok (.ireturn, 1) := by decide +kernel
theorem dX6_readRow_62 : decode cX6_readRow 62 = .ok (.aload_n 0, 1) := by decide +kernel
theorem dX6_readRow_63 : decode cX6_readRow 63 = .ok (.aload_n 0, 1) := by decide +kernel
theorem dX6_readRow_64 : decode cX6_readRow 64 = .ok (.getfield 27, 3) := by decide +kernel
theorem dX6_readRow_67 : decode cX6_readRow 67 = .ok (.getfield 159, 3) := by decide +kernel
theorem dX6_readRow_70 : decode cX6_readRow 70 = .ok (.iload 4, 2) := by decide +kernel
theorem dX6_readRow_72 : decode cX6_readRow 72 = .ok (.iaload, 1) := by decide +kernel
theorem dX6_readRow_73 : decode cX6_readRow 73 = .ok (.iconst 0, 1) := by decide +kernel
theorem dX6_readRow_74 : decode cX6_readRow 74 = .ok (.invokestatic 214, 3) := by decide +kernel
theorem dX6_readRow_77 : decode cX6_readRow 77 = .ok (.istore 5, 2) := by decide +kernel
theorem dX6_readRow_79 : decode cX6_readRow 79 = .ok (.iload 5, 2) := by decide +kernel
theorem dX6_readRow_81 : decode cX6_readRow 81 = .ok (.iconst (-1), 1) := by decide +kernel
theorem dX6_readRow_82 : decode cX6_readRow 82 = .ok (.if_icmp .ne 5, 3) := by decide +kernel
theorem dX6_readRow_85 : decode cX6_readRow 85 = .ok (.iconst (-1), 1) := by decide +kernel
theorem dX6_readRow_86 : decode cX6_readRow 86 = .ok (.ireturn, 1) := by decide +kernel
theorem dX6_readRow_87 : decode cX6_readRow 87 = .ok (.iload_n 3, 1) := by decide +kernel
theorem dX6_readRow_88 : decode cX6_readRow 88 = .ok (.aload_n 0, 1) := by decide +kernel
theorem dX6_readRow_89 : decode cX6_readRow 89 = .ok (.getfield 27, 3) := by decide +kernel
theorem dX6_readRow_92 : decode cX6_readRow 92 = .ok (.getfield 218, 3) := by decide +kernel
theorem dX6_readRow_95 : decode cX6_readRow 95 = .ok (.iload 4, 2) := by decide +kernel
theorem dX6_readRow_97 : decode cX6_readRow 97 = .ok (.iaload, 1) := by decide +kernel
theorem dX6_readRow_98 : decode cX6_readRow 98 = .ok (.imul, 1) := by decide +kernel
theorem dX6_readRow_99 : decode cX6_readRow 99 = .ok (.iload 5, 2) := by decide +kernel
theorem dX6_readRow_101 : decode cX6_readRow 101 = .ok (.iadd, 1) := by decide +kernel
theorem dX6_readRow_102 : decode cX6_readRow 102 = .ok (.istore_n 3, 1) := by decide +kernel
theorem dX6_readRow_103 : decode cX6_readRow 103 = .ok (.iinc 4 1, 3) := by decide +kernel
theorem dX6_readRow_106 : decode cX6_readRow 106 = .ok (.goto (-72), 3) := by decide +kernel
theorem dX6_readRow_109 : decode cX6_readRow 109 = .ok (.aload_n 0, 1) := by decide +kernel
theorem dX6_readRow_110 : decode cX6_readRow 110 = .ok (.getfield 12, 3) := by decide +kernel
theorem dX6_readRow_113 : decode cX6_readRow 113 = .ok (.getfield 40, 3) := by decide +kernel
theorem dX6_readRow_116 : decode cX6_readRow 116 = .ok (.ifCond .eq 10, 3) := by decide +kernel
theorem dX6_readRow_119 : decode cX6_readRow 119 = .ok (.aload_n 0, 1) := by decide +kernel
theorem dX6_readRow_120 : decode cX6_readRow 120 = .ok (.invokevirtual 65, 3) := by decide +kernel
theorem dX6_readRow_123 : decode cX6_readRow 123 = .ok (.pop, 1) := by decide +kernel
theorem dX6_readRow_124 : decode cX6_readRow 124 = .ok (.iconst (-1), 1) := by decide +kernel
theorem dX6_readRow_125 : decode cX6_readRow 125 = .ok (.ireturn, 1) := by decide +kernel
theorem dX6_readRow_126 : decode cX6_readRow 126 = .ok (.iload_n 3, 1) := by decide +kernel
theorem dX6_readRow_127 : decode cX6_readRow 127 = .ok (.ireturn, 1) := by decide +kernel
theorem dX6_readValue_0 : decode cX6_readValue 0 = .ok (.iload_n 1, 1) := by decide +kernel
theorem dX6_readValue_1 : decode cX6_readValue 1 = .ok (.iconst (-1), 1) := by decide +kernel
theorem dX6_readValue_2 : decode cX6_readValue 2 = .ok (.if_icmp .ne 11, 3) := by decide +kernel
theorem dX6_readValue_5 : decode cX6_readValue 5 = .ok (.aload_n 0, 1) := by decide +kernel
theorem dX6_readValue_6 : decode cX6_readValue 6 = .ok (.iconst 0, 1) := by decide +kernel
theorem dX6_readValue_7 : decode cX6_readValue 7 = .ok (.bipush 19, 2) := by decide +kernel
theorem dX6_readValue_9 : decode cX6_readValue 9 = .ok (.invokevirtual 98, 3) := by decide +kernel
theorem dX6_readValue_12 : decode cX6_readValue 12 = .ok (.ireturn, 1) := by decide +kernel
theorem dX6_readValue_13 : decode cX6_readValue 13 = .ok (.iload_n 2, 1) := by decide +kernel
theorem dX6_readValue_14 : decode cX6_readValue 14 = .ok (.iconst 4, 1) := by decide +kernel
theorem dX6_readValue_15 : decode cX6_readValue 15 = .ok (.if_icmp .le 7, 3) := by decide +kernel
theorem dX6_readValue_18 : decode cX6_readValue 18 = .ok (.iconst (-1), 1) := by decide +kernel
theorem dX6_readValue_19 : decode cX6_readValue 19 = .ok (.goto 8, 3) := by decide +kernel
theorem dX6_readValue_22 : decode cX6_readValue 22 = .ok (.aload_n 0, 1) := by decide +kernel
theorem dX6_readValue_23 : decode cX6_readValue 23 = .ok (.iload_n 1, 1) := by decide +kernel
theorem dX6_readValue_24 : decode cX6_readValue 24 = .ok (.invokevirtual 184, 3) := by decide +kernel
theorem dX6_readValue_27 : decode cX6_readValue 27 = .ok (.istore_n 3, 1) := by decide +kernel
theorem dX6_readValue_28 : decode cX6_readValue 28 = .ok (.iload_n 3, 1) := by decide +kernel
theorem dX6_readValue_29 : decode cX6_readValue 29 = .ok (.iconst (-1), 1) := by decide +kernel
theorem dX6_readValue_30 : decode cX6_readValue 30 = .ok (.if_icmp .ne 5, 3) := by decide +kernel
theorem dX6_readValue_33 : decode cX6_readValue 33 = .ok (.iconst (-1), 1) := by decide +kernel
theorem dX6_readValue_34 : decode cX6_readValue 34 = .ok (.ireturn, 1) := by decide +kernel
theorem dX6_readValue_35 : decode cX6_readValue 35 = .ok (.aload_n 0, 1) := by decide +kernel
theorem dX6_readValue_36 : decode cX6_readValue 36 = .ok (.getfield 27, 3) := by decide +kernel
theorem dX6_readValue_39 : decode cX6_readValue 39 = .ok (.getfield 108, 3) := by decide +kernel
theorem dX6_readValue_42 : decode cX6_readValue 42 = .ok (.astore 4, 2) := by decide +kernel
theorem dX6_readValue_44 : decode cX6_readValue 44 = .ok (.aload 4, 2) := by decide +kernel
theorem dX6_readValue_46 : decode cX6_readValue 46 = .ok (.getfield 187, 3) := by decide +kernel
theorem dX6_readValue_49 : decode cX6_readValue 49 = .ok (.iload_n 3, 1) := by decide +kernel
theorem dX6_readValue_50 : decode cX6_readValue 50 = .ok (.iaload, 1) := by decide +kernel
theorem dX6_readValue_51 : decode cX6_readValue 51 = .ok (.ifCond .ne 11, 3) := by decide +kernel
theorem dX6_readValue_54 : decode cX6_readValue 54 = .ok (.aload 4, 2) := by decide +kernel
theorem dX6_readValue_56 : decode cX6_readValue 56 = .ok (.getfield 190, 3) := by decide +kernel
theorem dX6_readValue_59 : decode cX6_readValue 59 = .ok (.iload_n 3, 1) := by decide +kernel
theorem dX6_readValue_60 : decode cX6_readValue 60 = .ok (.iaload, 1) := by decide +kernel
theorem dX6_readValue_61 : decode cX6_readValue 61 = .ok (.ireturn, 1) := by decide +kernel
theorem dX6_readValue_62 : decode cX6_readValue 62 = .ok (.aload_n 0, 1) := by decide +kernel
theorem dX6_readValue_63 : decode cX6_readValue 63 = .ok (.bipush 40, 2) := by decide +kernel
theorem dX6_readValue_65 : decode cX6_readValue 65 = .ok (.invokevirtual 68, 3) := by decide +kernel
theorem dX6_readValue_68 : decode cX6_readValue 68 = .ok (.ifCond .eq 20, 3) := by decide +kernel
theorem dX6_readValue_71 : decode cX6_readValue 71 = .ok (.aload_n 0, 1) := by decide +kernel
theorem dX6_readValue_72 : decode cX6_readValue 72 = .ok (.aload 4, 2) := by decide +kernel
theorem dX6_readValue_74 : decode cX6_readValue 74 = .ok (.getfield 193, 3) := by decide +kernel
theorem dX6_readValue_77 : decode cX6_readValue 77 = .ok (.iload_n 3, 1) := by decide +kernel
theorem dX6_readValue_78 : decode cX6_readValue 78 = .ok (.iaload, 1) := by decide +kernel
theorem dX6_readValue_79 : decode cX6_readValue 79 = .ok (.iload_n 2, 1) := by decide +kernel
theorem dX6_readValue_80 : decode cX6_readValue 80 = .ok (.iconst 1, 1) := by decide +kernel
theorem dX6_readValue_81 : decode cX6_readValue 81 = .ok (.iadd, 1) := by decide +kernel
theorem dX6_readValue_82 : decode cX6_readValue 82 = .ok (.invokestatic 214, 3) := by decide +kernel
theorem dX6_readValue_85 : decode cX6_readValue 85 = .ok (.goto 4, 3) := by decide +kernel
theorem dX6_readValue_88 : decode cX6_readValue 88 = .ok (.iconst (-1), 1) := by decide +kernel
theorem dX6_readValue_89 : decode cX6_readValue 89 = .ok (.istore 5, 2) := by decide +kernel
theorem dX6_readValue_91 : decode cX6_readValue 91 = .ok (.iload 5, 2) := by decide +kernel
theorem dX6_readValue_93 : decode cX6_readValue 93 = .ok (.iconst (-1), 1) := by decide +kernel
theorem dX6_readValue_94 : decode cX6_readValue 94 = .ok (.if_icmp .ne 5, 3) := by decide +kernel
theorem dX6_readValue_97 : decode cX6_readValue 97 = .ok (.iconst (-1), 1) := by decide +kernel
theorem dX6_readValue_98 : decode cX6_readValue 98 = .ok (.ireturn, 1) := by decide +kernel
theorem dX6_readValue_99 : decode cX6_readValue 99 = .ok (.iconst 0, 1) := by decide +kernel
theorem dX6_readValue_100 : decode cX6_readValue 100 = .ok (.istore 6, 2) := by decide +kernel
theorem dX6_readValue_102 : decode cX6_readValue 102 = .ok (.aload 4, 2) := by decide +kernel
theorem dX6_readValue_104 : decode cX6_readValue 104 = .ok (.getfield 187, 3) := by decide +kernel
theorem dX6_readValue_107 : decode cX6_readValue 107 = .ok (.iload_n 3, 1) := by decide +kernel
theorem dX6_readValue_108 : decode cX6_readValue 108 = .ok (.iaload, 1) := by decide +kernel
theorem dX6_readValue_109 : decode cX6_readValue 109 = .ok (.iconst 2, 1) := by decide +kernel
theorem dX6_readValue_110 : decode cX6_readValue 110 = .ok (.if_icmp .ne 32, 3) := by decide +kernel
theorem dX6_readValue_113 : decode cX6_readValue 113 = .ok (.aload_n 0, 1) := by decide +kernel
theorem dX6_readValue_114 : decode cX6_readValue 114 = .ok (.bipush 44, 2) := by decide +kernel
theorem dX6_readValue_116 : decode cX6_readValue 116 = .ok (.invokevirtual 68, 3) := by decide +kernel
theorem dX6_readValue_119 : decode cX6_readValue 119 = .ok (.ifCond .eq 20, 3) := by decide +kernel
theorem dX6_readValue_122 : decode cX6_readValue 122 = .ok (.aload_n 0, 1) := by decide +kernel
theorem dX6_readValue_123 : decode cX6_readValue 123 = .ok (.aload 4, 2) := by decide +kernel
theorem dX6_readValue_125 : decode cX6_readValue 125 = .ok (.getfield 196, 3) := by decide +kernel
theorem dX6_readValue_128 : decode cX6_readValue 128 = .ok (.iload_n 3, 1) := by decide +kernel
theorem dX6_readValue_129 : decode cX6_readValue 129 = .ok (.iaload, 1) := by decide +kernel
theorem dX6_readValue_130 : decode cX6_readValue 130 = .ok (.iload_n 2, 1) := by decide +kernel
theorem dX6_readValue_131 : decode cX6_readValue 131 = .ok (.iconst 1, 1) := by decide +kernel
theorem dX6_readValue_132 : decode cX6_readValue 132 = .ok (.iadd, 1) := by decide +kernel
theorem dX6_readValue_133 : decode cX6_readValue 133 = .ok (.invokestatic 214, 3) := by decide +kernel
theorem dX6_readValue_136 : decode cX6_readValue 136 = .ok (.goto 4, 3) := by decide +kernel
theorem dX6_readValue_139 : decode cX6_readValue 139 = .ok (.iconst (-1), 1) := by decide +kernel
theorem dX6_readValue_140 : decode cX6_readValue 140 = .ok (.istore 6, 2) := by decide +kernel
theorem dX6_readValue_142 : decode cX6_readValue 142 = .ok (.iload 6, 2) := by decide +kernel
theorem dX6_readValue_144 : decode cX6_readValue 144 = .ok (.iconst (-1), 1) := by decide +kernel
theorem dX6_readValue_145 : decode cX6_readValue 145 = .ok (.if_icmp .eq 12, 3) := by decide +kernel
theorem dX6_readValue_148 : decode cX6_readValue 148 = .ok (.aload_n 0, 1) := by decide +kernel
theorem dX6_readValue_149 : decode cX6_readValue 149 = .ok (.bipush 41, 2) := by decide +kernel
theorem dX6_readValue_151 : decode cX6_readValue 151 = .ok (.invokevirtual 68, 3) := by decide +kernel
theorem dX6_readValue_154 : decode cX6_readValue 154 = .ok (.ifCond .ne 5, 3) := by decide +kernel
theorem dX6_readValue_157 : decode cX6_readValue 157 = .ok (.iconst (-1), 1) := by decide +kernel
theorem dX6_readValue_158 : decode cX6_readValue 158 = .ok (.ireturn, 1) := by decide +kernel
theorem dX6_readValue_159 : decode cX6_readValue 159 = .ok (.aload 4, 2) := by decide +kernel
theorem dX6_readValue_161 : decode cX6_readValue 161 = .ok (.getfield 190, 3) := by decide +kernel
theorem dX6_readValue_164 : decode cX6_readValue 164 = .ok (.iload_n 3, 1) := by decide +kernel
theorem dX6_readValue_165 : decode cX6_readValue 165 = .ok (.iaload, 1) := by decide +kernel
theorem dX6_readValue_166 : decode cX6_readValue 166 = .ok (.iload 5, 2) := by decide +kernel
theorem dX6_readValue_168 : decode cX6_readValue 168 = .ok (.aload 4, 2) := by decide +kernel
theorem dX6_readValue_170 : decode cX6_readValue 170 = .ok (.iload_n 3, 1) := by decide +kernel
theorem dX6_readValue_171 : decode cX6_readValue 171 = .ok (.invokevirtual 206, 3) := by decide +kernel
theorem dX6_readValue_174 : decode cX6_readValue 174 = .ok (.imul, 1) := by decide +kernel
theorem dX6_readValue_175 : decode cX6_readValue 175 = .ok (.iadd, 1) := by decide +kernel
theorem dX6_readValue_176 : decode cX6_readValue 176 = .ok (.iload 6, 2) := by decide +kernel
theorem dX6_readValue_178 : decode cX6_readValue 178 = .ok (.iadd, 1) := by decide +kernel
theorem dX6_readValue_179 : decode cX6_readValue 179 = .ok (.ireturn, 1) := by decide +kernel
theorem dX7_init_0 : decode cX7_init 0 = .ok (.aload_n 0, 1) := by decide +kernel
theorem dX7_init_1 : decode cX7_init 1 = .ok (.invokespecial 3, 3) := by decide +kernel
theorem dX7_init_4 : decode cX7_init 4 = .ok (.aload_n 0, 1) := by decide +kernel
theorem dX7_init_5 : decode cX7_init 5 = .ok (.bipush 11, 2) := by decide +kernel
theorem dX7_init_7 : decode cX7_init 7 = .ok (.newarray .int, 2) := by decide +kernel
theorem dX7_init_9 : decode cX7_init 9 = .ok (.dup, 1) := by decide +kernel
theorem dX7_init_10 : decode cX7_init 10 = .ok (.iconst 0, 1) := by decide +kernel
theorem dX7_init_11 : decode cX7_init 11 = .ok (.ldc 9, 2) := by decide +kernel
theorem dX7_init_13 : decode cX7_init 13 = .ok (.invokestatic 11, 3) := by decide +kernel
theorem dX7_init_16 : decode cX7_init 16 = .ok (.iastore, 1) := by decide +kernel
theorem dX7_init_17 : decode cX7_init 17 = .ok (.dup, 1) := by decide +kernel
theorem dX7_init_18 : decode cX7_init 18 = .ok (.iconst 1, 1) := by decide +kernel
theorem dX7_init_19 : decode cX7_init 19 = .ok (.ldc 17, 2) := by decide +kernel
theorem dX7_init_21 : decode cX7_init 21 = .ok (.invokestatic 11, 3) := by decide +kernel
theorem dX7_init_24 : decode cX7_init 24 = .ok (.iastore, 1) := by decide +kernel
theorem dX7_init_25 : decode cX7_init 25 = .ok (.dup, 1) := by decide +kernel
theorem dX7_init_26 : decode cX7_init 26 = .ok (.iconst 2, 1) := by decide +kernel
theorem dX7_init_27 : decode cX7_init 27 = .ok (.ldc 19, 2) := by decide +kernel
theorem dX7_init_29 : decode cX7_init 29 = .ok (.invokestatic 11, 3) := by decide +kernel
theorem dX7_init_32 : decode cX7_init 32 = .ok (.iastore, 1) := by decide +kernel
theorem dX7_init_33 : decode cX7_init 33 = .ok (.dup, 1) := by decide +kernel
theorem dX7_init_34 : decode cX7_init 34 = .ok (.iconst 3, 1) := by decide +kernel
theorem dX7_init_35 : decode cX7_init 35 = .ok (.ldc 21, 2) := by decide +kernel
theorem dX7_init_37 : decode cX7_init 37 = .ok (.invokestatic 11, 3) := by decide +kernel
theorem dX7_init_40 : decode cX7_init 40 = .ok (.iastore, 1) := by decide +kernel
theorem dX7_init_41 : decode cX7_init 41 = .ok (.dup, 1) := by decide +kernel
theorem dX7_init_42 : decode cX7_init 42 = .ok (.iconst 4, 1) := by decide +kernel
theorem dX7_init_43 : decode cX7_init 43 = .ok (.ldc 23, 2) := by decide +kernel
theorem dX7_init_45 : decode cX7_init 45 = .ok (.invokestatic 11, 3) := by decide +kernel
theorem dX7_init_48 : decode cX7_init 48 = .ok (.iastore, 1) := by decide +kernel
theorem dX7_init_49 : decode cX7_init 49 = .ok (.dup, 1) := by decide +kernel
theorem dX7_init_50 : decode cX7_init 50 = .ok (.iconst 5, 1) := by decide +kernel
theorem dX7_init_51 : decode cX7_init 51 = .ok (.ldc 25, 2) := by decide +kernel
theorem dX7_init_53 : decode cX7_init 53 = .ok (.invokestatic 11, 3) := by decide +kernel
theorem dX7_init_56 : decode cX7_init 56 = .ok (.iastore, 1) := by decide +kernel
theorem dX7_init_57 : decode cX7_init 57 = .ok (.dup, 1) := by decide +kernel
theorem dX7_init_58 : decode cX7_init 58 = .ok (.bipush 6, 2) := by decide +kernel
theorem dX7_init_60 : decode cX7_init 60 = .ok (.ldc 27, 2) := by decide +kernel
theorem dX7_init_62 : decode cX7_init 62 = .ok (.invokestatic 11, 3) := by decide +kernel
theorem dX7_init_65 : decode cX7_init 65 = .ok (.iastore, 1) := by decide +kernel
theorem dX7_init_66 : decode cX7_init 66 = .ok (.dup, 1) := by decide +kernel
theorem dX7_init_67 : decode cX7_init 67 = .ok (.bipush 7, 2) := by decide +kernel
theorem dX7_init_69 : decode cX7_init 69 = .ok (.ldc 29, 2) := by decide +kernel
theorem dX7_init_71 : decode cX7_init 71 = .ok (.invokestatic 11, 3) := by decide +kernel
theorem dX7_init_74 : decode cX7_init 74 = .ok (.iastore, 1) := by decide +kernel
theorem dX7_init_75 : decode cX7_init 75 = .ok (.dup, 1) := by decide +kernel
theorem dX7_init_76 : decode cX7_init 76 = .ok (.bipush 8, 2) := by decide +kernel
theorem dX7_init_78 : decode cX7_init 78 = .ok (.ldc 31, 2) := by decide +kernel
theorem dX7_init_80 : decode cX7_init 80 = .ok (.invokestatic 11, 3) := by decide +kernel
theorem dX7_init_83 : decode cX7_init 83 = .ok (.iastore, 1) := by decide +kernel
theorem dX7_init_84 : decode cX7_init 84 = .ok (.dup, 1) := by decide +kernel
theorem dX7_init_85 : decode cX7_init 85 = .ok (.bipush 9, 2) := by decide +kernel
theorem dX7_init_87 : decode cX7_init 87 = .ok (.ldc 33, 2) := by decide +kernel
theorem dX7_init_89 : decode cX7_init 89 = .ok (.invokestatic 11, 3) := by decide +kernel
theorem dX7_init_92 : decode cX7_init 92 = .ok (.iastore, 1) := by decide +kernel
theorem dX7_init_93 : decode cX7_init 93 = .ok (.dup, 1) := by decide +kernel
theorem dX7_init_94 : decode cX7_init 94 = .ok (.bipush 10, 2) := by decide +kernel
theorem dX7_init_96 : decode cX7_init 96 = .ok (.ldc 35, 2) := by decide +kernel
theorem dX7_init_98 : decode cX7_init 98 = .ok (.invokestatic 11, 3) := by decide +kernel
theorem dX7_init_101 : decode cX7_init 101 = .ok (.iastore, 1) := by decide +kernel
theorem dX7_init_102 : decode cX7_init 102 = .ok (.putfield 37, 3) := by decide +kernel
theorem dX7_init_105 : decode cX7_init 105 = .ok (.aload_n 0, 1) := by decide +kernel
theorem dX7_init_106 : decode cX7_init 106 = .ok (.iconst 0, 1) := by decide +kernel
theorem dX7_init_107 : decode cX7_init 107 = .ok (.newarray .int, 2) := by decide +kernel
theorem dX7_init_109 : decode cX7_init 109 = .ok (.putfield 41, 3) := by decide +kernel
theorem dX7_init_112 : decode cX7_init 112 = .ok (.return_, 1) := by decide +kernel
theorem dX7_spell_0 : decode cX7_spell 0 = .ok (.iconst 0, 1) := by decide +kernel
theorem dX7_spell_1 : decode cX7_spell 1 = .ok (.istore_n 1, 1) := by decide +kernel
theorem dX7_spell_2 : decode cX7_spell 2 = .ok (.iconst 0, 1) := by decide +kernel
theorem dX7_spell_3 : decode cX7_spell 3 = .ok (.istore_n 2, 1) := by decide +kernel
theorem dX7_spell_4 : decode cX7_spell 4 = .ok (.iload_n 2, 1) := by decide +kernel
theorem dX7_spell_5 : decode cX7_spell 5 = .ok (.bipush 6, 2) := by decide +kernel
theorem dX7_spell_7 : decode cX7_spell 7 = .ok (.if_icmp .ge 37, 3) := by decide +kernel
theorem dX7_spell_10 : decode cX7_spell 10 = .ok (.iload_n 1, 1) := by decide +kernel
theorem dX7_spell_11 : decode cX7_spell 11 = .ok (.bipush 27, 2) := by decide +kernel
theorem dX7_spell_13 : decode cX7_spell 13 = .ok (.imul, 1) := by decide +kernel
theorem dX7_spell_14 : decode cX7_spell 14 = .ok (.iload_n 2, 1) := by decide +kernel
theorem dX7_spell_15 : decode cX7_spell 15 = .ok (.aload_n 0, 1) := by decide +kernel
theorem dX7_spell_16 : decode cX7_spell 16 = .ok (.invokevirtual 44, 3) := by decide +kernel
theorem dX7_spell_19 : decode cX7_spell 19 = .ok (.if_icmp .ge 16, 3) := by decide +kernel
theorem dX7_spell_22 : decode cX7_spell 22 = .ok (.aload_n 0, 1) := by decide +kernel
theorem dX7_spell_23 : decode cX7_spell 23 = .ok (.iload_n 2, 1) := by decide +kernel
theorem dX7_spell_24 : decode cX7_spell 24 = .ok (.invokevirtual 50, 3) := by decide +kernel
theorem dX7_spell_27 : decode cX7_spell 27 = .ok (.bipush 97, 2) := by decide +kernel
theorem dX7_spell_29 : decode cX7_spell 29 = .ok (.isub, 1) := by decide +kernel
theorem dX7_spell_30 : decode cX7_spell 30 = .ok (.iconst 1, 1) := by decide +kernel
theorem dX7_spell_31 : decode cX7_spell 31 = .ok (.iadd, 1) := by decide +kernel
theorem dX7_spell_32 : decode cX7_spell 32 = .ok (.goto 4, 3) := by decide +kernel
theorem dX7_spell_35 : decode cX7_spell 35 = .ok (.iconst 0, 1) := by decide +kernel
theorem dX7_spell_36 : decode cX7_spell 36 = .ok (.iadd, 1) := by decide +kernel
theorem dX7_spell_37 : decode cX7_spell 37 = .ok (.istore_n 1, 1) := by decide +kernel
theorem dX7_spell_38 : decode cX7_spell 38 = .ok (.iinc 2 1, 3) := by decide +kernel
theorem dX7_spell_41 : decode cX7_spell 41 = .ok (.goto (-37), 3) := by decide +kernel
theorem dX7_spell_44 : decode cX7_spell 44 = .ok (.iload_n 1, 1) := by decide +kernel
theorem dX7_spell_45 : decode cX7_spell 45 = .ok (.ireturn, 1) := by decide +kernel
theorem dX7_begin_0 : decode cX7_begin 0 = .ok (.aload_n 0, 1) := by decide +kernel
theorem dX7_begin_1 : decode cX7_begin 1 = .ok (.aload_n 1, 1) := by decide +kernel
theorem dX7_begin_2 : decode cX7_begin 2 = .ok (.getfield 54, 3) := by decide +kernel
theorem dX7_begin_5 : decode cX7_begin 5 = .ok (.putfield 41, 3) := by decide +kernel
theorem dX7_begin_8 : decode cX7_begin 8 = .ok (.aload_n 0, 1) := by decide +kernel
theorem dX7_begin_9 : decode cX7_begin 9 = .ok (.iconst 0, 1) := by decide +kernel
theorem dX7_begin_10 : decode cX7_begin 10 = .ok (.aload_n 1, 1) := by decide +kernel
theorem dX7_begin_11 : decode cX7_begin 11 = .ok (.getfield 59, 3) := by decide +kernel
theorem dX7_begin_14 : decode cX7_begin 14 = .ok (.aload_n 0, 1) := by decide +kernel
theorem dX7_begin_15 : decode cX7_begin 15 = .ok (.getfield 41, 3) := by decide +kernel
theorem dX7_begin_18 : decode cX7_begin 18 = .ok (.arraylength, 1) := by decide +kernel
theorem dX7_begin_19 : decode cX7_begin 19 = .ok (.invokestatic 62, 3) := by decide +kernel
theorem dX7_begin_22 : decode cX7_begin 22 = .ok (.invokestatic 68, 3) := by decide +kernel
theorem dX7_begin_25 : decode cX7_begin 25 = .ok (.putfield 71, 3) := by decide +kernel
theorem dX7_begin_28 : decode cX7_begin 28 = .ok (.aload_n 0, 1) := by decide +kernel
theorem dX7_begin_29 : decode cX7_begin 29 = .ok (.iconst 0, 1) := by decide +kernel
theorem dX7_begin_30 : decode cX7_begin 30 = .ok (.putfield 72, 3) := by decide +kernel
theorem dX7_begin_33 : decode cX7_begin 33 = .ok (.aload_n 0, 1) := by decide +kernel
theorem dX7_begin_34 : decode cX7_begin 34 = .ok (.iconst 0, 1) := by decide +kernel
theorem dX7_begin_35 : decode cX7_begin 35 = .ok (.putfield 75, 3) := by decide +kernel
theorem dX7_begin_38 : decode cX7_begin 38 = .ok (.aload_n 0, 1) := by decide +kernel
theorem dX7_begin_39 : decode cX7_begin 39 = .ok (.invokevirtual 78, 3) := by decide +kernel
theorem dX7_begin_42 : decode cX7_begin 42 = .ok (.return_, 1) := by decide +kernel
theorem dX7_step_0 : decode cX7_step 0 = .ok (.aload_n 0, 1) := by decide +kernel
theorem dX7_step_1 : decode cX7_step 1 = .ok (.getfield 75, 3) := by decide +kernel
theorem dX7_step_4 : decode cX7_step 4 = .ok (.iconst 1, 1) := by decide +kernel
theorem dX7_step_5 : decode cX7_step 5 = .ok (.if_icmp .eq 11, 3) := by decide +kernel
theorem dX7_step_8 : decode cX7_step 8 = .ok (.aload_n 0, 1) := by decide +kernel
theorem dX7_step_9 : decode cX7_step 9 = .ok (.getfield 75, 3) := by decide +kernel
theorem dX7_step_12 : decode cX7_step 12 = .ok (.iconst 2, 1) := by decide +kernel
theorem dX7_step_13 : decode cX7_step 13 = .ok (.if_icmp .ne 7, 3) := by decide +kernel
theorem dX7_step_16 : decode cX7_step 16 = .ok (.iconst 1, 1) := by decide +kernel
theorem dX7_step_17 : decode cX7_step 17 = .ok (.goto 4, 3) := by decide +kernel
theorem dX7_step_20 : decode cX7_step 20 = .ok (.iconst 0, 1) := by decide +kernel
theorem dX7_step_21 : decode cX7_step 21 = .ok (.istore_n 1, 1) := by decide +kernel
theorem dX7_step_22 : decode cX7_step 22 = .ok (.aload_n 0, 1) := by decide +kernel
theorem dX7_step_23 : decode cX7_step 23 = .ok (.getfield 72, 3) := by decide +kernel
theorem dX7_step_26 : decode cX7_step 26 = .ok (.istore_n 2, 1) := by decide +kernel
theorem dX7_step_27 : decode cX7_step 27 = .ok (.aload_n 0, 1) := by decide +kernel
theorem dX7_step_28 : decode cX7_step 28 = .ok (.getfield 72, 3) := by decide +kernel
theorem dX7_step_31 : decode cX7_step 31 = .ok (.ifCond .lt 55, 3) := by decide +kernel
theorem dX7_step_34 : decode cX7_step 34 = .ok (.aload_n 0, 1) := by decide +kernel
theorem dX7_step_35 : decode cX7_step 35 = .ok (.getfield 72, 3) := by decide +kernel
theorem dX7_step_38 : decode cX7_step 38 = .ok (.aload_n 0, 1) := by decide +kernel
theorem dX7_step_39 : decode cX7_step 39 = .ok (.getfield 71, 3) := by decide +kernel
theorem dX7_step_42 : decode cX7_step 42 = .ok (.if_icmp .ge 44, 3) := by decide +kernel
theorem dX7_step_45 : decode cX7_step 45 = .ok (.aload_n 0, 1) := by decide +kernel
theorem dX7_step_46 : decode cX7_step 46 = .ok (.getfield 41, 3) := by decide +kernel
theorem dX7_step_49 : decode cX7_step 49 = .ok (.aload_n 0, 1) := by decide +kernel
theorem dX7_step_50 : decode cX7_step 50 = .ok (.getfield 72, 3) := by decide +kernel
theorem dX7_step_53 : decode cX7_step 53 = .ok (.iaload, 1) := by decide +kernel
theorem dX7_step_54 : decode cX7_step 54 = .ok (.bipush 32, 2) := by decide +kernel
theorem dX7_step_56 : decode cX7_step 56 = .ok (.if_icmp .eq 17, 3) := by decide +kernel
theorem dX7_step_59 : decode cX7_step 59 = .ok (.aload_n 0, 1) := by decide +kernel
theorem dX7_step_60 : decode cX7_step 60 = .ok (.getfield 41, 3) := by decide +kernel
theorem dX7_step_63 : decode cX7_step 63 = .ok (.aload_n 0, 1) := by decide +kernel
theorem dX7_step_64 : decode cX7_step 64 = .ok (.getfield 72, 3) := by decide +kernel
theorem dX7_step_67 : decode cX7_step 67 = .ok (.iaload, 1) := by decide +kernel
theorem dX7_step_68 : decode cX7_step 68 = .ok (.bipush 10, 2) := by decide +kernel
theorem dX7_step_70 : decode cX7_step 70 = .ok (.if_icmp .ne 16, 3) := by decide +kernel
theorem dX7_step_73 : decode cX7_step 73 = .ok (.aload_n 0, 1) := by decide +kernel
theorem dX7_step_74 : decode cX7_step 74 = .ok (.dup, 1) := by decide +kernel
theorem dX7_step_75 : decode cX7_step 75 = .ok (.getfield 72, 3) := by decide +kernel
theorem dX7_step_78 : decode cX7_step 78 = .ok (.iconst 1, 1) := by decide +kernel
theorem dX7_step_79 : decode cX7_step 79 = .ok (.iadd, 1) := by decide +kernel
theorem dX7_step_80 : decode cX7_step 80 = .ok (.putfield 72, 3) := by decide +kernel
theorem dX7_step_83 : decode cX7_step 83 = .ok (.goto (-56), 3) := by decide +kernel
theorem dX7_step_86 : decode cX7_step 86 = .ok (.aload_n 0, 1) := by decide +kernel
theorem dX7_step_87 : decode cX7_step 87 = .ok (.aload_n 0, 1) := by decide +kernel
theorem dX7_step_88 : decode cX7_step 88 = .ok (.getfield 72, 3) := by decide +kernel
theorem dX7_step_91 : decode cX7_step 91 = .ok (.putfield 81, 3) := by decide +kernel
theorem dX7_step_94 : decode cX7_step 94 = .ok (.aload_n 0, 1) := by decide +kernel
theorem dX7_step_95 : decode cX7_step 95 = .ok (.aload_n 0, 1) := by decide +kernel
theorem dX7_step_96 : decode cX7_step 96 = .ok (.getfield 72, 3) := by decide +kernel
theorem dX7_step_99 : decode cX7_step 99 = .ok (.putfield 84, 3) := by decide +kernel
theorem dX7_step_102 : decode cX7_step 102 = .ok (.aload_n 0, 1) := by decide +kernel
theorem dX7_step_103 : decode cX7_step 103 = .ok (.iconst (-1), 1) := by decide +kernel
theorem dX7_step_104 : decode cX7_step 104 = .ok (.putfield 87, 3) := by decide +kernel
theorem dX7_step_107 : decode cX7_step 107 = .ok (.aload_n 0, 1) := by decide +kernel
theorem dX7_step_108 : decode cX7_step 108 = .ok (.iconst 0, 1) := by decide +kernel
theorem dX7_step_109 : decode cX7_step 109 = .ok (.putfield 90, 3) := by decide +kernel
theorem dX7_step_112 : decode cX7_step 112 = .ok (.aload_n 0, 1) := by decide +kernel
theorem dX7_step_113 : decode cX7_step 113 = .ok (.getfield 72, 3) := by decide +kernel
theorem dX7_step_116 : decode cX7_step 116 = .ok (.ifCond .lt 14, 3) := by decide +kernel
theorem dX7_step_119 : decode cX7_step 119 = .ok (.aload_n 0, 1) := by decide +kernel
theorem dX7_step_120 : decode cX7_step 120 = .ok (.getfield 72, 3) := by decide +kernel
theorem dX7_step_123 : decode cX7_step 123 = .ok (.aload_n 0, 1) := by decide +kernel
theorem dX7_step_124 : decode cX7_step 124 = .ok (.getfield 71, 3) := by decide +kernel
theorem dX7_step_127 : decode cX7_step 127 = .ok (.if_icmp .lt 9, 3) := by decide +kernel
theorem dX7_step_130 : decode cX7_step 130 = .ok (.aload_n 0, 1) := by decide +kernel
theorem dX7_step_131 : decode cX7_step 131 = .ok (.iconst 0, 1) := by decide +kernel
theorem dX7_step_132 : decode cX7_step 132 = .ok (.putfield 75, 3) := by decide +kernel
theorem dX7_step_135 : decode cX7_step 135 = .ok (.return_, 1) := by decide +kernel
theorem dX7_step_136 : decode cX7_step 136 = .ok (.aload_n 0, 1) := by decide +kernel
theorem dX7_step_137 : decode cX7_step 137 = .ok (.getfield 41, 3) := by decide +kernel
theorem dX7_step_140 : decode cX7_step 140 = .ok (.aload_n 0, 1) := by decide +kernel
theorem dX7_step_141 : decode cX7_step 141 = .ok (.getfield 72, 3) := by decide +kernel
theorem dX7_step_144 : decode cX7_step 144 = .ok (.iaload, 1) := by decide +kernel
theorem dX7_step_145 : decode cX7_step 145 = .ok (.istore_n 3, 1) := by decide +kernel
theorem dX7_step_146 : decode cX7_step 146 = .ok (.iload_n 3, 1) := by decide +kernel
theorem dX7_step_147 : decode cX7_step 147 = .ok (.bipush 97, 2) := by decide +kernel
theorem dX7_step_149 : decode cX7_step 149 = .ok (.if_icmp .lt 13, 3) := by decide +kernel
theorem dX7_step_152 : decode cX7_step 152 = .ok (.iload_n 3, 1) := by decide +kernel
theorem dX7_step_153 : decode cX7_step 153 = .ok (.bipush 122, 2) := by decide +kernel
theorem dX7_step_155 : decode cX7_step 155 = .ok (.if_icmp .gt 7, 3) := by decide +kernel
theorem dX7_step_158 : decode cX7_step 158 = .ok (.iconst 1, 1) := by decide +kernel
theorem dX7_step_159 : decode cX7_step 159 = .ok (.goto 4, 3) := by decide +kernel
theorem dX7_step_162 : decode cX7_step 162 = .ok (.iconst 0, 1) := by decide +kernel
theorem dX7_step_163 : decode cX7_step 163 = .ok (.istore 4, 2) := by decide +kernel
theorem dX7_step_165 : decode cX7_step 165 = .ok (.iload_n 3, 1) := by decide +kernel
theorem dX7_step_166 : decode cX7_step 166 = .ok (.bipush 48, 2) := by decide +kernel
theorem dX7_step_168 : decode cX7_step 168 = .ok (.if_icmp .lt 13, 3) := by decide +kernel
end
